/** Promises 44 and 45: the line of text. */
public final class WritingTest {
    public static void main(String[] args) {
        fewRings();
        manyRings();
        refused();
        Check.end();
    }

    private static TunnelRing laid(int rings) {
        TunnelRing t = Tunnels.ready(12, 0, 0);
        t.setTolerance(9999);
        t.setPressure(20);
        for (int ring = 0; ring < rings; ring++) {
            int stack = ring % 3;
            t.lay(stack, new int[] {3, 5, 6}[stack]);
        }
        return t;
    }

    private static String text(TunnelRing t) {
        StringBuilder s = new StringBuilder();
        try {
            for (int index = 0; index < 100; index++) {
                s.append(t.lineAt(index));
            }
        } catch (IndexOutOfBoundsException e) {
            return s.toString();
        }
        return s.append("...").toString();
    }

    private static void fewRings() {
        TunnelRing t = laid(3);
        Check.same("45 empty at first", text(t), "");
        Check.same("44 three rings", t.writeRings(0), 11);
        Check.same("45 three rings", text(t), "3/0 5/1 6/6");
        Check.same("44 in place of the line before", t.writeRings(2), 3);
        Check.same("45 in place of the line before", text(t), "6/6");
        t.lay(0, 3);
        Check.same("45 laying does not write", text(t), "6/6");
        Check.same("44 anew", t.writeRings(2), 7);
        Check.same("45 anew", text(t), "6/6 3/0");
    }

    private static void manyRings() {
        TunnelRing t = laid(12);
        Check.same("44 ten at most", t.writeRings(0), 39);
        Check.same("45 ten at most", text(t), "3/0 5/1 6/6 3/0 5/2 6/7 3/0 5/3 6/8 3/0");
        Check.same("44 just ten", t.writeRings(2), 39);
        Check.same("45 just ten", text(t), "6/6 3/0 5/2 6/7 3/0 5/3 6/8 3/0 5/4 6/9");
        Check.same("44 nine", t.writeRings(3), 35);
        Check.same("45 the last sign", t.lineAt(34), '9');
        Check.same("45 behind it", Check.thrownBy(() -> t.lineAt(35)),
                "IndexOutOfBoundsException");
    }

    private static TunnelRing written() {
        TunnelRing t = laid(3);
        t.writeRings(1);
        return t;
    }

    private static void refused() {
        for (int ring : new int[] {-1, 3, 12, 200, Integer.MAX_VALUE, Integer.MIN_VALUE}) {
            Check.refuses("44 ring " + ring, IndexOutOfBoundsException.class,
                    WritingTest::written, x -> x.writeRings(ring));
        }
        for (int index : new int[] {-1, 7, 39, 40, Integer.MAX_VALUE, Integer.MIN_VALUE}) {
            Check.refuses("45 index " + index, IndexOutOfBoundsException.class,
                    WritingTest::written, x -> x.lineAt(index));
        }
        Check.refuses("44 no ring", IndexOutOfBoundsException.class, TunnelRing::new,
                x -> x.writeRings(0));
        Check.refuses("45 no line", IndexOutOfBoundsException.class, TunnelRing::new,
                x -> x.lineAt(0));
    }
}
