/** Promises 7 to 12: the stacks. */
public final class StackTest {
    private static final int[] NO_STACK = {-1, 3, Integer.MAX_VALUE, Integer.MIN_VALUE};

    public static void main(String[] args) {
        cast();
        heights();
        tapers();
        hoursToCure();
        restack();
        curedShare();
        Check.end();
    }

    private static TunnelRing mixed() {
        TunnelRing t = new TunnelRing();
        t.cast(0, 3);
        t.stop(5);
        t.cast(0, 9);
        t.cast(1, 0);
        return t;
    }

    private static TunnelRing full(int stack) {
        TunnelRing t = new TunnelRing();
        for (int ring = 0; ring < 12; ring++) {
            t.cast(stack, ring % 10);
        }
        return t;
    }

    private static void cast() {
        for (int stack = 0; stack < 3; stack++) {
            int number = stack;
            TunnelRing t = full(stack);
            Check.same("7 twelve rings", t.heightOf(stack), 12);
            Check.refuses("7 a thirteenth one", IllegalStateException.class, () -> full(number),
                    x -> x.cast(number, 0));
            Check.refuses("7 taper before state", IllegalArgumentException.class,
                    () -> full(number), x -> x.cast(number, 10));
            int other = (stack + 1) % 3;
            Check.same("7 another stack has room", t.cast(other, 0), 1);
            Check.same("7 and once more", t.cast(other, 9), 2);
            Check.same("7 lower taper", t.taperAt(other, 0), 0);
            Check.same("7 upper taper", t.taperAt(other, 1), 9);
        }
        for (int stack : NO_STACK) {
            Check.refuses("7 no stack", IndexOutOfBoundsException.class, StackTest::mixed,
                    x -> x.cast(stack, 1));
            Check.refuses("7 stack before taper", IndexOutOfBoundsException.class,
                    StackTest::mixed, x -> x.cast(stack, 10));
        }
        for (int taper : new int[] {-1, 10, Integer.MAX_VALUE}) {
            Check.refuses("7 taper", IllegalArgumentException.class, StackTest::mixed,
                    x -> x.cast(2, taper));
        }
    }

    private static void heights() {
        TunnelRing t = mixed();
        Check.same("8 two", t.heightOf(0), 2);
        Check.same("8 one", t.heightOf(1), 1);
        Check.same("8 none", t.heightOf(2), 0);
        for (int stack : NO_STACK) {
            Check.refuses("8 no stack", IndexOutOfBoundsException.class, StackTest::mixed,
                    x -> x.heightOf(stack));
        }
    }

    private static void tapers() {
        TunnelRing t = mixed();
        Check.same("9 lowest", t.taperAt(0, 0), 3);
        Check.same("9 top", t.taperAt(0, 1), 9);
        Check.same("9 other", t.taperAt(1, 0), 0);
        Check.same("9 the twelfth", full(2).taperAt(2, 11), 1);
        for (int place : new int[] {-1, 2, 12, Integer.MAX_VALUE, Integer.MIN_VALUE}) {
            Check.refuses("9 no place", java.util.NoSuchElementException.class, StackTest::mixed,
                    x -> x.taperAt(0, place));
        }
        Check.refuses("9 empty stack", java.util.NoSuchElementException.class, StackTest::mixed,
                x -> x.taperAt(2, 0));
        for (int stack : NO_STACK) {
            Check.refuses("9 no stack", IndexOutOfBoundsException.class, StackTest::mixed,
                    x -> x.taperAt(stack, -1));
        }
    }

    private static void hoursToCure() {
        TunnelRing t = mixed();
        Check.same("10 just cast", t.hoursToCure(0), 24);
        t.stop(23);
        Check.same("10 one hour", t.hoursToCure(0), 1);
        t.stop(1);
        Check.same("10 cured", t.hoursToCure(0), 0);
        t.stop(50);
        Check.same("10 long cured", t.hoursToCure(0), 0);
        t.cast(0, 1);
        Check.same("10 the top ring counts", t.hoursToCure(0), 24);
        Check.refuses("10 empty", java.util.NoSuchElementException.class, StackTest::mixed,
                x -> x.hoursToCure(2));
        for (int stack : NO_STACK) {
            Check.refuses("10 no stack", IndexOutOfBoundsException.class, StackTest::mixed,
                    x -> x.hoursToCure(stack));
        }
    }

    private static void restack() {
        TunnelRing t = mixed();
        t.stop(10);
        Check.same("11 same stack", t.restack(0, 0), 2);
        Check.same("11 to an empty one", t.restack(0, 2), 1);
        Check.same("11 taken", t.heightOf(0), 1);
        Check.same("11 taper goes along", t.taperAt(2, 0), 9);
        Check.same("11 age goes along", t.hoursToCure(2), 14);
        Check.same("11 ring below keeps its age", t.hoursToCure(0), 9);
        Check.same("11 onto another one", t.restack(2, 1), 2);
        Check.same("11 full, same stack", full(1).restack(1, 1), 12);
        TunnelRing both = full(1);
        both.cast(0, 5);
        Check.same("11 from a full one", both.restack(1, 0), 2);
        Check.same("11 back to full", both.restack(0, 1), 12);
        Check.refuses("11 onto a full one", IllegalStateException.class, () -> {
            TunnelRing x = full(1);
            x.cast(0, 5);
            return x;
        }, x -> x.restack(0, 1));
        Check.refuses("11 empty before full", java.util.NoSuchElementException.class,
                () -> full(1), x -> x.restack(0, 1));
        Check.refuses("11 empty, same stack", java.util.NoSuchElementException.class,
                StackTest::mixed, x -> x.restack(2, 2));
        for (int stack : NO_STACK) {
            Check.refuses("11 no from", IndexOutOfBoundsException.class, StackTest::mixed,
                    x -> x.restack(stack, 0));
            Check.refuses("11 no to", IndexOutOfBoundsException.class, StackTest::mixed,
                    x -> x.restack(0, stack));
            Check.refuses("11 no to, empty from", IndexOutOfBoundsException.class,
                    StackTest::mixed, x -> x.restack(2, stack));
            Check.refuses("11 neither", IndexOutOfBoundsException.class, StackTest::mixed,
                    x -> x.restack(stack, stack));
        }
    }

    private static void curedShare() {
        TunnelRing t = mixed();
        Check.same("12 none", t.curedShare(), 0.0f);
        t.stop(19);
        Check.same("12 one of three", t.curedShare(), 1.0f / 3.0f);
        t.stop(5);
        Check.same("12 all", t.curedShare(), 1.0f);
        t.cast(2, 0);
        Check.same("12 below the top and above", t.curedShare(), 0.75f);
        Check.refuses("12 empty", ArithmeticException.class, TunnelRing::new,
                TunnelRing::curedShare);
    }
}
