/** Promises 9 to 17: day, don, doff, letout, takein, hem, turn, undo, redo. */
public final class ActsTest {
    private static final Check CHECK = new Check("ActsTest");
    private static final int[] FAR = {-1, 6, Integer.MIN_VALUE, Integer.MAX_VALUE};

    public static void main(String[] args) {
        growAndWear();
        rain();
        rainAtTheEdges();
        takeOff();
        lastDay();
        donAndDoff();
        letoutAndTakein();
        hem();
        turn();
        undoAndRedo();
        fortyActs();
        noActs();
        CHECK.finish();
    }

    private static void growAndWear() {
        TailorRegiment x = Check.regiment("man a tall 5 wide 96 grows 2;man b tall 5 wide 5;easy 999;"
                + "coat c tall 9 wide 9 worn 98;coat d tall 9 wide 9 worn 3;");
        x.don(0, 0);
        CHECK.due("day()", x.day(), 0);
        CHECK.due("wider", x.man(0, 1), 98);
        CHECK.due("worn more", x.coat(0, 3), 99);
        CHECK.due("day()", x.day(), 0);
        CHECK.due("99 at most", x.man(0, 1), 99);
        CHECK.due("99 at most", x.coat(0, 3), 99);
        CHECK.due("nobody wears it", x.coat(1, 3), 3);
        CHECK.due("he grows none", x.man(1, 1), 5);
        CHECK.due("no rain", x.coat(0, 1), 9);
        CHECK.due("the day", x.about(5), 2);
        CHECK.due("the seed goes on", x.about(6), (71 * 137 + 71) % 1000);
    }

    private static void rain() {
        // seeds from 9: 304, 719, 574; of 100: 4, 19, 74
        TailorRegiment x = Check.regiment("man a tall 5 wide 5;coat c tall 9 wide 1;coat d tall 7 wide 7;"
                + "easy 999;draw 9;rain 19;");
        CHECK.due("the seed is draw", x.about(6), 9);
        x.don(0, 0);
        x.day();
        CHECK.due("seed", x.about(6), 304);
        CHECK.due("it rained: tall", x.coat(0, 0), 8);
        CHECK.due("it rained: wide", x.coat(0, 1), 0);
        CHECK.due("nobody wears it: tall", x.coat(1, 0), 7);
        CHECK.due("nobody wears it: wide", x.coat(1, 1), 7);
        x.day();
        CHECK.due("seed", x.about(6), 719);
        CHECK.due("19 is not less than 19", x.coat(0, 0), 8);
        x.day();
        CHECK.due("seed", x.about(6), 574);
        CHECK.due("74 neither", x.coat(0, 0), 8);
    }

    private static void rainAtTheEdges() {
        TailorRegiment x = Check.regiment("man a tall 5 wide 5;coat c tall 2 wide 0;easy 999;draw 9;rain 100;");
        x.don(0, 0);
        for (int i = 0; i < 3; i++) {
            x.day();
        }
        CHECK.due("tall 0 at least", x.coat(0, 0), 0);
        CHECK.due("wide 0 at least", x.coat(0, 1), 0);
        // the seed 17 becomes 400: of 100 it is 0, which is not less than rain 0
        TailorRegiment dry = Check.regiment("man a tall 5 wide 5;coat c tall 2 wide 2;easy 999;draw 17;rain 0;");
        dry.don(0, 0);
        dry.day();
        CHECK.due("seed", dry.about(6), 400);
        CHECK.due("never rains", dry.coat(0, 0), 2);
        TailorRegiment wet = Check.regiment("man a tall 5 wide 5;coat c tall 2 wide 2;easy 999;draw 17;rain 1;");
        wet.don(0, 0);
        wet.day();
        CHECK.due("0 is less than 1", wet.coat(0, 0), 1);
    }

    private static void takeOff() {
        TailorRegiment x = Check.regiment("ill day*worn;easy 3;man a tall 1 wide 1;man b tall 1 wide 1;man c tall 1 wide 1;"
                + "coat a tall 1 wide 1;coat b tall 1 wide 1 worn 3;coat c tall 1 wide 1;");
        x.don(0, 0);
        x.don(2, 1);
        CHECK.due("1 * 1, 1 * 4: the third takes his off", x.day(), 4);
        CHECK.due("he has none", x.man(2, 3), -1);
        CHECK.due("nobody has it", x.coat(1, 5), -1);
        CHECK.due("the first one has", x.man(0, 3), 0);
        CHECK.due("2 * 2", x.day(), 1);
        CHECK.due("nobody is left", x.day(), 0);
        TailorRegiment all = Check.regiment("ill 9;easy 8;man a tall 1 wide 1;man b tall 1 wide 1;"
                + "coat a tall 1 wide 1;coat b tall 1 wide 1;");
        all.don(0, 1);
        all.don(1, 0);
        CHECK.due("worn though it does not fit", all.man(1, 3), 0);
        CHECK.due("both", all.day(), 3);
    }

    private static void lastDay() {
        // more calls than the 512 that the document speaks of: the class keeps to its word all the same
        TailorRegiment y = Check.regiment("easy 1;");
        for (int i = 0; i < 999; i++) {
            CHECK.due("day " + i, y.day(), 0);
        }
        CHECK.due("999 are gone", y.about(5), 999);
        int seed = y.about(6);
        CHECK.due("undone once", y.undo(), true);
        CHECK.due("998", y.about(5), 998);
        CHECK.due("the last again", y.day(), 0);
        CHECK.due("none behind it", y.day(), -1);
        CHECK.due("nothing is done", y.about(5), 999);
        CHECK.due("nor drawn", y.about(6), seed);
        CHECK.due("nor kept", y.about(7), 40);
    }

    private static void donAndDoff() {
        TailorRegiment x = Check.regiment("man a tall 1 wide 1;man b tall 1 wide 99;"
                + "coat a tall 1 wide 1;coat b tall 1 wide 1;coat c tall 1 wide 1;");
        CHECK.due("doff(0) of none", x.doff(0), -1);
        CHECK.due("don(0, 0)", x.don(0, 0), -1);
        CHECK.due("don(0, 0) again", x.don(0, 0), -2);
        CHECK.due("don(1, 0)", x.don(1, 0), -2);
        CHECK.due("one act", x.about(7), 1);
        CHECK.due("don(0, 2)", x.don(0, 2), 0);
        CHECK.due("he wears that", x.man(0, 3), 2);
        CHECK.due("nobody wears the other", x.coat(0, 5), -1);
        CHECK.due("don(1, 0), that fits not", x.don(1, 0), -1);
        CHECK.due("who wears it", x.coat(0, 5), 1);
        for (int far : FAR) {
            CHECK.due("don(" + far + ", 1)", x.don(far, 1), -2);
            CHECK.due("don(0, " + far + ")", x.don(0, far), -2);
            CHECK.due("doff(" + far + ")", x.doff(far), -1);
        }
        CHECK.due("don(2, 1)", x.don(2, 1), -2);
        CHECK.due("don(0, 3)", x.don(0, 3), -2);
        CHECK.due("three acts", x.about(7), 3);
        CHECK.due("doff(1)", x.doff(1), 0);
        CHECK.due("doff(1) again", x.doff(1), -1);
        CHECK.due("doff(0)", x.doff(0), 2);
        CHECK.due("five acts", x.about(7), 5);
    }

    private static void letoutAndTakein() {
        TailorRegiment x = Check.regiment("coat a tall 10 wide 95 seam 6;coat b tall 10 wide 99 seam 20;coat c tall 5 wide 50;");
        CHECK.due("letout(0, 0)", x.letout(0, 0), -1);
        CHECK.due("letout(0, 7)", x.letout(0, 7), -1);
        CHECK.due("letout(0, 5), above 99", x.letout(0, 5), -1);
        CHECK.due("letout(0, min)", x.letout(0, Integer.MIN_VALUE), -1);
        CHECK.due("letout(0, max)", x.letout(0, Integer.MAX_VALUE), -1);
        CHECK.due("no acts", x.about(7), 0);
        CHECK.due("letout(0, 1)", x.letout(0, 1), 96);
        CHECK.due("letout(0, 3)", x.letout(0, 3), 99);
        CHECK.due("seam", x.coat(0, 2), 2);
        CHECK.due("letout(2, 1) without seam", x.letout(2, 1), -1);
        CHECK.due("takein(0, 0)", x.takein(0, 0), -1);
        CHECK.due("takein(0, -1)", x.takein(0, -1), -1);
        CHECK.due("takein(0, min)", x.takein(0, Integer.MIN_VALUE), -1);
        CHECK.due("takein(0, max)", x.takein(0, Integer.MAX_VALUE), -1);
        CHECK.due("takein(0, 100)", x.takein(0, 100), -1);
        CHECK.due("takein(0, 98), seam above 99", x.takein(0, 98), -1);
        CHECK.due("takein(0, 97)", x.takein(0, 97), 2);
        CHECK.due("seam", x.coat(0, 2), 99);
        CHECK.due("letout(0, 97)", x.letout(0, 97), 99);
        CHECK.due("takein(2, 51)", x.takein(2, 51), -1);
        CHECK.due("takein(2, 1)", x.takein(2, 1), 49);
        CHECK.due("takein(2, 49)", x.takein(2, 49), 0);
        CHECK.due("takein(2, 1) of none", x.takein(2, 1), -1);
        CHECK.due("letout(2, 50)", x.letout(2, 50), 50);
        CHECK.due("seam is gone", x.coat(2, 2), 0);
        CHECK.due("tall stays", x.coat(2, 0), 5);
        for (int far : FAR) {
            CHECK.due("letout(" + far + ", 1)", x.letout(far, 1), -1);
            CHECK.due("takein(" + far + ", 1)", x.takein(far, 1), -1);
        }
        CHECK.due("letout(3, 1)", x.letout(3, 1), -1);
        CHECK.due("takein(3, 1)", x.takein(3, 1), -1);
        CHECK.due("acts", x.about(7), 7);
    }

    private static void hem() {
        TailorRegiment x = Check.regiment("coat a tall 10 wide 9 seam 6;");
        CHECK.due("hem(0, 0)", x.hem(0, 0), -1);
        CHECK.due("hem(0, -3)", x.hem(0, -3), -1);
        CHECK.due("hem(0, 11)", x.hem(0, 11), -1);
        CHECK.due("hem(0, 1)", x.hem(0, 1), 9);
        CHECK.due("hem(0, 2)", x.hem(0, 2), 7);
        CHECK.due("hem(0, 7)", x.hem(0, 7), 0);
        CHECK.due("hem(0, 1)", x.hem(0, 1), -1);
        CHECK.due("wide stays", x.coat(0, 1), 9);
        CHECK.due("seam stays", x.coat(0, 2), 6);
        for (int far : FAR) {
            CHECK.due("hem(" + far + ", 1)", x.hem(far, 1), -1);
            CHECK.due("hem(0, " + far + ")", x.hem(0, far), -1);
        }
        CHECK.due("hem(1, 1)", x.hem(1, 1), -1);
        CHECK.due("acts", x.about(7), 3);
    }

    private static void turn() {
        TailorRegiment x = Check.regiment("coat a tall 10 wide 9 worn 6;coat b tall 1 wide 1;");
        CHECK.due("turn(1)", x.turn(1), 0);
        CHECK.due("turn(1) again", x.turn(1), -1);
        CHECK.due("turn(0)", x.turn(0), 6);
        CHECK.due("worn", x.coat(0, 3), 0);
        CHECK.due("turned", x.coat(0, 4), 1);
        CHECK.due("turn(0) again", x.turn(0), -1);
        for (int far : FAR) {
            CHECK.due("turn(" + far + ")", x.turn(far), -1);
        }
        CHECK.due("turn(2)", x.turn(2), -1);
        CHECK.due("acts", x.about(7), 2);
        CHECK.due("undo()", x.undo(), true);
        CHECK.due("worn again", x.coat(0, 3), 6);
        CHECK.due("turn(0) anew", x.turn(0), 6);
    }

    private static String state(TailorRegiment x) {
        StringBuilder b = new StringBuilder();
        for (int i = 0; i < 3; i++) {
            for (int what = 0; what < 4; what++) {
                b.append(x.man(i, what)).append(' ');
            }
            for (int what = 0; what < 6; what++) {
                b.append(x.coat(i, what)).append(' ');
            }
        }
        return b.append(x.about(5)).append(' ').append(x.about(6)).toString();
    }

    private static void undoAndRedo() {
        TailorRegiment x = Check.regiment("man a tall 5 wide 5 grows 1;man b tall 5 wide 5;easy 99;rain 60;draw 5;"
                + "coat a tall 9 wide 9 seam 5 worn 2;coat b tall 8 wide 8 worn 1;");
        String[] states = new String[12];
        states[0] = state(x);
        x.don(0, 0);
        states[1] = state(x);
        x.don(0, 1);
        states[2] = state(x);
        x.day();
        states[3] = state(x);
        x.letout(0, 2);
        states[4] = state(x);
        x.takein(1, 2);
        states[5] = state(x);
        x.hem(1, 2);
        states[6] = state(x);
        x.turn(1);
        states[7] = state(x);
        x.doff(0);
        states[8] = state(x);
        for (int i = 7; i >= 0; i--) {
            CHECK.due("undo() to " + i, x.undo(), true);
            CHECK.due("as it was: " + i, state(x).equals(states[i]), true);
            CHECK.due("about(7)", x.about(7), i);
            CHECK.due("about(8)", x.about(8), 8 - i);
        }
        CHECK.due("undo() of none", x.undo(), false);
        for (int i = 1; i <= 8; i++) {
            CHECK.due("redo() to " + i, x.redo(), true);
            CHECK.due("as it was: " + i, state(x).equals(states[i]), true);
            CHECK.due("about(7)", x.about(7), i);
        }
        CHECK.due("redo() of none", x.redo(), false);
        x.undo();
        x.undo();
        x.hem(0, 1);
        CHECK.due("another act: no redo()", x.redo(), false);
        CHECK.due("about(8)", x.about(8), 0);
        CHECK.due("about(7)", x.about(7), 7);
        CHECK.due("undo()", x.undo(), true);
        CHECK.due("as it was: 6", state(x).equals(states[6]), true);
    }

    private static void fortyActs() {
        TailorRegiment x = Check.regiment("coat a tall 99 wide 9;");
        for (int i = 1; i <= 53; i++) {
            x.hem(0, 1);
            CHECK.due("kept", x.about(7), Math.min(40, i));
        }
        for (int i = 0; i < 40; i++) {
            CHECK.due("undo()", x.undo(), true);
            CHECK.due("tall", x.coat(0, 0), 99 - 53 + i + 1);
        }
        CHECK.due("the oldest are gone", x.undo(), false);
        CHECK.due("40 to redo", x.about(8), 40);
        for (int i = 0; i < 40; i++) {
            CHECK.due("redo()", x.redo(), true);
            CHECK.due("tall", x.coat(0, 0), 99 - 13 - i - 1);
        }
        CHECK.due("redo()", x.redo(), false);
        for (int i = 0; i < 25; i++) {
            x.undo();
        }
        x.hem(0, 5);
        CHECK.due("kept", x.about(7), 16);
        CHECK.due("none to redo", x.about(8), 0);
        for (int i = 0; i < 16; i++) {
            x.undo();
        }
        CHECK.due("the oldest that is kept", x.coat(0, 0), 99 - 13);
        CHECK.due("no more", x.undo(), false);
    }

    private static void noActs() {
        TailorRegiment x = Check.regiment("man a tall 1 wide 1;coat a tall 5 wide 5;");
        x.don(0, 0);
        x.undo();
        x.don(0, 7);
        x.doff(0);
        x.letout(0, 1);
        x.takein(0, 9);
        x.hem(0, 9);
        x.turn(1);
        x.image(0);
        x.dress(0);
        x.seen(1, true);
        CHECK.due("what does nothing keeps the redo", x.about(8), 1);
        CHECK.due("redo()", x.redo(), true);
        CHECK.due("he wears it", x.man(0, 3), 0);
    }
}
