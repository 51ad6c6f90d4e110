/** The boundary cases of promises 7 to 12, each sentence by itself. */
public final class StackBoundsTest {
    private static final String SOME = "cast 0 3; stop 5; cast 0 9; cast 1 0";
    private static final String FULL = "cast 1 4; cast 1 6 *11";
    private static final String GONE = "addGround 1 0 0; cast 0 5; stop 24; addSlurry 40; lay 0 0";

    public static void main(String[] args) {
        castArguments();
        castOntoAFullStack();
        heights();
        places();
        hours();
        restackArguments();
        restackOntoAFullStack();
        restackFromAnEmptyStack();
        shares();
        Check.end();
    }

    private static void castArguments() {
        Edge.due("7 the first stack", SOME, "cast 0 1", 3);
        Edge.due("7 another stack", SOME, "cast 1 1", 2);
        Edge.due("7 the last stack", SOME, "cast 2 1", 1);
        Edge.outside("7 stack", SOME, "cast # 1", 0, 2, Edge.INDEX);
        Edge.due("7 least taper", "cast 0 0", "taperAt 0 0", 0);
        Edge.due("7 some taper", "cast 0 4", "taperAt 0 0", 4);
        Edge.due("7 greatest taper", "cast 0 9", "taperAt 0 0", 9);
        Edge.outside("7 taper", SOME, "cast 2 #", 0, 9, Edge.ARGUMENT);
        Edge.outside("7 stack before taper", SOME, "cast # 10", 0, 2, Edge.INDEX);
        Edge.outside("7 stack before taper", SOME, "cast # -1", 0, 2, Edge.INDEX);
    }

    private static void castOntoAFullStack() {
        for (int stack = 0; stack < 3; stack++) {
            String eleven = "cast " + stack + " 7 *11";
            String twelve = "cast " + stack + " 7 *12";
            Edge.due("7 the twelfth ring", eleven, "cast " + stack + " 2", 12);
            Edge.due("7 a thirteenth ring", twelve, "cast " + stack + " 2", Edge.STATE);
            Edge.outside("7 taper before room", twelve, "cast " + stack + " #", 0, 9,
                    Edge.ARGUMENT);
            Edge.due("7 other stacks have room", twelve, "cast " + (stack + 1) % 3 + " 2", 1);
        }
        Edge.due("7 the twelfth keeps its hour", FULL + "; stop 5", "cast 1 2", Edge.STATE);
        Edge.outside("7 stack before room", FULL, "cast # 2", 0, 2, Edge.INDEX);
        Edge.due("7 room anew", FULL + "; restack 1 0", "cast 1 2", 12);
        Edge.due("7 room anew, behind laying", FULL + "; addGround 1 0 0; stop 24; addSlurry 40;"
                + "lay 1 0", "cast 1 2", 12);
        Edge.due("7 all stacks are full", "cast 0 1 *12; cast 1 1 *12; cast 2 1 *12", "cast 2 1",
                Edge.STATE);
    }

    private static void heights() {
        Edge.due("8 the first stack", SOME, "heightOf 0", 2);
        Edge.due("8 another stack", SOME, "heightOf 1", 1);
        Edge.due("8 the last stack, empty", SOME, "heightOf 2", 0);
        Edge.due("8 a full stack", FULL, "heightOf 1", 12);
        Edge.due("8 emptied", GONE, "heightOf 0", 0);
        Edge.outside("8 stack", SOME, "heightOf #", 0, 2, Edge.INDEX);
    }

    private static void places() {
        Edge.due("9 the lowest ring", SOME, "taperAt 0 0", 3);
        Edge.due("9 the top ring", SOME, "taperAt 0 1", 9);
        Edge.outside("9 place", SOME, "taperAt 0 #", 0, 1, Edge.ELEMENT);
        Edge.due("9 the first place of an empty stack", SOME, "taperAt 2 0", Edge.ELEMENT);
        Edge.due("9 the lowest of twelve", FULL, "taperAt 1 0", 4);
        Edge.due("9 the twelfth place", FULL, "taperAt 1 11", 6);
        Edge.due("9 a thirteenth place", FULL, "taperAt 1 12", Edge.ELEMENT);
        Edge.due("9 below the lowest one", FULL, "taperAt 1 -1", Edge.ELEMENT);
        Edge.outside("9 stack", SOME, "taperAt # 0", 0, 2, Edge.INDEX);
        Edge.outside("9 stack before place", SOME, "taperAt # -1", 0, 2, Edge.INDEX);
        Edge.due("9 taken away", SOME + "; restack 0 2", "taperAt 0 1", Edge.ELEMENT);
        Edge.due("9 laid", GONE, "taperAt 0 0", Edge.ELEMENT);
    }

    private static void hours() {
        Edge.due("10 just cast", "cast 0 1", "hoursToCure 0", 24);
        Edge.due("10 an hour later", "cast 0 1; stop 1", "hoursToCure 0", 23);
        Edge.due("10 the last hour", "cast 0 1; stop 23", "hoursToCure 0", 1);
        Edge.due("10 just cured", "cast 0 1; stop 24", "hoursToCure 0", 0);
        Edge.due("10 an hour later", "cast 0 1; stop 25", "hoursToCure 0", 0);
        Edge.due("10 long after", "cast 0 1; stop 100", "hoursToCure 0", 0);
        Edge.due("10 cast later", "stop 100; cast 0 1; stop 23", "hoursToCure 0", 1);
        Edge.due("10 the top ring alone", "cast 0 1; stop 24; cast 0 1", "hoursToCure 0", 24);
        String laying = "addGround 1 0 0; addSlurry 40; cast 1 0; stop 2; cast 0 1; stop ";
        Edge.due("10 laying takes hours too", laying + "22; lay 1 0", "hoursToCure 0", 0);
        Edge.due("10 one hour less", "addGround 1 0 0; addSlurry 40; cast 1 0; stop 3; cast 0 1;"
                + "stop 21; lay 1 0", "hoursToCure 0", 1);
        Edge.due("10 empty", SOME, "hoursToCure 2", Edge.ELEMENT);
        Edge.due("10 emptied", GONE, "hoursToCure 0", Edge.ELEMENT);
        Edge.outside("10 stack", SOME, "hoursToCure #", 0, 2, Edge.INDEX);
        Edge.outside("10 stack, all are empty", "", "hoursToCure #", 0, 2, Edge.INDEX);
    }

    private static void restackArguments() {
        Edge.due("11 from the first to the last stack", SOME, "restack 0 2", 1);
        Edge.due("11 from the last to the first stack", "cast 2 1; cast 0 1 *3", "restack 2 0", 4);
        for (String call : new String[] {"restack # 0", "restack # 2", "restack 0 #",
            "restack 1 #", "restack # #"}) {
            Edge.outside("11 stack", SOME, call, 0, 2, Edge.INDEX);
        }
        Edge.outside("11 stack before empty", SOME, "restack 2 #", 0, 2, Edge.INDEX);
        Edge.outside("11 stack before empty", "", "restack # 0", 0, 2, Edge.INDEX);
        Edge.outside("11 stack before full", FULL, "restack # 1", 0, 2, Edge.INDEX);
    }

    private static void restackOntoAFullStack() {
        String eleven = "cast 1 6 *11; cast 0 5";
        String twelve = "cast 1 6 *12; cast 0 5";
        Edge.due("11 the twelfth ring", eleven, "restack 0 1", 12);
        Edge.due("11 a thirteenth ring", twelve, "restack 0 1", Edge.STATE);
        Edge.due("11 both are full", "cast 0 5 *12; cast 1 6 *12", "restack 0 1", Edge.STATE);
        Edge.due("11 onto the same full one", twelve, "restack 1 1", 12);
        Edge.due("11 the same full one stays", FULL + "; restack 1 1", "taperAt 1 11", 6);
        Edge.due("11 both keep their hours", twelve + "; stop 5", "restack 0 1", Edge.STATE);
        Edge.due("11 from a full one", twelve, "restack 1 0", 2);
        Edge.due("11 the last stack is full", "cast 2 6 *12; cast 0 5", "restack 0 2", Edge.STATE);
    }

    private static void restackFromAnEmptyStack() {
        Edge.due("11 empty", SOME, "restack 2 0", Edge.ELEMENT);
        Edge.due("11 empty, onto the same", SOME, "restack 2 2", Edge.ELEMENT);
        Edge.due("11 empty, onto a full one", FULL, "restack 0 1", Edge.ELEMENT);
        Edge.due("11 the only ring", SOME, "restack 1 2", 1);
        Edge.due("11 the only ring, onto the same", SOME, "restack 1 1", 1);
        Edge.due("11 no second ring", SOME + "; restack 1 2", "restack 1 2", Edge.ELEMENT);
        Edge.due("11 the hours go along", "cast 0 1; stop 23; restack 0 1", "hoursToCure 1", 1);
        Edge.due("11 the hours stay", "cast 0 1; stop 23; restack 0 0", "hoursToCure 0", 1);
        Edge.due("11 the ring below", SOME + "; restack 0 0", "taperAt 0 0", 3);
    }

    private static void shares() {
        Edge.due("12 none is cured", "cast 0 1; stop 23", "curedShare", "0.0");
        Edge.due("12 the only one is", "cast 0 1; stop 24", "curedShare", "1.0");
        Edge.due("12 one of three", "cast 0 1; stop 1; cast 1 1; cast 2 1; stop 23", "curedShare",
                1.0f / 3.0f);
        Edge.due("12 two of three", "cast 0 1; cast 2 1; stop 1; cast 2 1; stop 23", "curedShare",
                2.0f / 3.0f);
        Edge.due("12 35 of 36", "cast 0 1 *12; cast 1 1 *12; cast 2 1 *11; stop 1; cast 2 1;"
                + "stop 23", "curedShare", 35.0f / 36.0f);
        Edge.due("12 all of 36", "cast 0 1 *12; cast 1 1 *12; cast 2 1 *12; stop 24", "curedShare",
                "1.0");
        Edge.due("12 all are empty", "", "curedShare", Edge.ARITHMETIC);
        Edge.due("12 all are emptied", GONE, "curedShare", Edge.ARITHMETIC);
        Edge.due("12 the last stack alone", "cast 2 0", "curedShare", "0.0");
    }
}
