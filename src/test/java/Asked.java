/** What calls of the face are asked of by their name; what one throws is answered as "throws.X". */
interface Asked {
    String call(String name, int... arguments);
}
