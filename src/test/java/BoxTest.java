/** Promises 46 to 48: image, back, about. */
public final class BoxTest {
    private static final Check CHECK = new Check("BoxTest");
    private static final String TEXT = "man a tall 50 wide 40 grows 2;man b tall 51 wide 41;"
            + "coat a tall 50 wide 45 seam 7 worn 8;coat b tall 49 wide 42;easy 99;rain 50;draw 7;";

    public static void main(String[] args) {
        imageAndBack();
        boxes();
        about();
        CHECK.finish();
    }

    private static String state(TailorRegiment x) {
        StringBuilder b = new StringBuilder();
        for (int i = 0; i < 2; i++) {
            for (int what = 0; what < 5; what++) {
                b.append(x.man(i, what)).append(' ');
            }
            for (int what = 0; what < 6; what++) {
                b.append(x.coat(i, what)).append(' ');
            }
        }
        return b.append(x.about(5)).append(' ').append(x.about(6)).toString();
    }

    private static void imageAndBack() {
        TailorRegiment x = Check.regiment(TEXT);
        x.don(0, 0);
        x.day();
        x.turn(1);
        x.undo();
        CHECK.due("image(0)", x.image(0), 1);
        CHECK.due("no act", x.about(7), 2);
        CHECK.due("none is gone", x.about(8), 1);
        String kept = state(x);
        x.letout(0, 1);
        x.hem(0, 1);
        x.turn(0);
        x.day();
        x.don(1, 0);
        x.doff(0);
        x.don(1, 1);
        CHECK.due("otherwise now", state(x).equals(kept), false);
        x.undo();
        CHECK.due("back(0)", x.back(0), 1);
        CHECK.due("as it was kept", state(x).equals(kept), true);
        CHECK.due("no acts to undo", x.about(7), 0);
        CHECK.due("no acts to redo", x.about(8), 0);
        CHECK.due("undo()", x.undo(), false);
        CHECK.due("redo()", x.redo(), false);
        x.day();
        CHECK.due("gone on from: day", x.about(5), 2);
        CHECK.due("undo()", x.undo(), true);
        CHECK.due("back to the image", state(x).equals(kept), true);
        x.day();
        x.day();
        CHECK.due("back(0) again", x.back(0), 1);
        CHECK.due("the box keeps it", state(x).equals(kept), true);
    }

    private static void boxes() {
        TailorRegiment x = Check.regiment(TEXT);
        x.seen(1, true);
        x.buttons();
        for (int box = 0; box < 3; box++) {
            CHECK.due("back(" + box + ") of none", x.back(box), -1);
        }
        x.day();
        for (int box : new int[] {-1, 3, 32, Integer.MIN_VALUE, Integer.MAX_VALUE}) {
            CHECK.due("image(" + box + ")", x.image(box), -1);
            CHECK.due("back(" + box + ")", x.back(box), -1);
        }
        CHECK.due("nothing was done", x.about(7), 1);
        CHECK.due("image(2)", x.image(2), 1);
        x.day();
        CHECK.due("image(0)", x.image(0), 2);
        for (int box : new int[] {-32, -30, -1, 3, 32, 34}) {
            CHECK.due("image(" + box + ")", x.image(box), -1);
            CHECK.due("back(" + box + ")", x.back(box), -1);
        }
        CHECK.due("back(1) of none", x.back(1), -1);
        x.day();
        CHECK.due("back(2)", x.back(2), 1);
        CHECK.due("back(0)", x.back(0), 2);
        CHECK.due("image(2) anew", x.image(2), 2);
        x.day();
        CHECK.due("back(2)", x.back(2), 2);
        CHECK.due("what is seen stays", x.about(9), 1);
        CHECK.due("what lies there stays", x.about(13), 2);
        Check.tell(x, TEXT);
        x.regiment();
        for (int box = 0; box < 3; box++) {
            CHECK.due("told anew: back(" + box + ")", x.back(box), -1);
        }
    }

    private static void about() {
        TailorRegiment x = Check.regiment(TEXT + "man c tall 1 wide 1;bolt 321;like 7;ill worn+(day);");
        x.later(44);
        x.don(0, 0);
        x.day();
        x.day();
        x.hem(0, 1);
        x.undo();
        x.seen(3, true);
        x.seen(4, true);
        x.untell(0);
        x.feed(1, 2, 3, 4, 5);
        x.end(13);
        x.dress(1);
        int seed = ((7 * 137 + 71) * 137 + 71) % 1000;
        int[] due = {3, 2, 99, 321, 7, 2, seed, 3, 1, 2, 44, 13, 3, 3};
        for (int what = 0; what < due.length; what++) {
            CHECK.due("about(" + what + ")", x.about(what), due[what]);
        }
        for (int what : new int[] {-1, 14, Integer.MIN_VALUE, Integer.MAX_VALUE}) {
            CHECK.due("about(" + what + ")", x.about(what), -1);
        }
    }
}
