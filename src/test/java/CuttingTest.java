/** Promises 25 to 29, 36 and 39: front, wings, cloth, buttons, reach, breadth, lies. */
public final class CuttingTest {
    private static final Check CHECK = new Check("CuttingTest");
    private static final int[] FAR = {-1, 6, Integer.MIN_VALUE, Integer.MAX_VALUE};

    public static void main(String[] args) {
        front();
        wings();
        cloth();
        clothNeedsSearch();
        buttons();
        reach();
        reachOfLikeOnes();
        breadth();
        liesStays();
        CHECK.finish();
    }

    /** As many men as coats, each in the coat of his number; the coats have these widths. */
    private static TailorRegiment worn(int... wides) {
        StringBuilder b = new StringBuilder("easy 999;");
        for (int i = 0; i < wides.length; i++) {
            b.append("man ").append((char) ('a' + i)).append(" tall 9 wide 9;coat ").append((char) ('a' + i))
                    .append(" tall 9 wide ").append(wides[i]).append(';');
        }
        TailorRegiment x = Check.regiment(b.toString());
        for (int i = 0; i < wides.length; i++) {
            x.don(i, i);
        }
        return x;
    }

    private static void front(TailorRegiment x, int n, int many, int which) {
        CHECK.due("front(" + n + ", 0)", x.front(n, 0), many);
        CHECK.due("front(" + n + ", 1)", x.front(n, 1), which);
    }

    private static void front() {
        TailorRegiment x = worn(10, 40, 20, 40);
        front(x, 0, 0, 0);
        front(x, 1, 1, 1);
        front(x, 10, 1, 1);
        front(x, 11, 1, 2);
        front(x, 40, 1, 2);
        front(x, 41, 2, 3);
        front(x, 51, 2, 6);
        front(x, 61, 2, 10);
        front(x, 81, 3, 11);
        front(x, 91, 3, 14);
        front(x, 110, 4, 15);
        front(x, 111, -1, -1);
        front(x, 999, -1, -1);
        for (int far : new int[] {-1, 1000, Integer.MIN_VALUE, Integer.MAX_VALUE}) {
            front(x, far, -1, -1);
        }
        CHECK.due("front(0, 2)", x.front(0, 2), -1);
        CHECK.due("front(0, -1)", x.front(0, -1), -1);
        x.doff(1);
        front(x, 11, 1, 4);
        front(x, 61, 3, 13);
        front(x, 71, -1, -1);
        TailorRegiment zero = worn(0);
        front(zero, 0, 0, 0);
        front(zero, 1, -1, -1);
    }

    private static void wings(TailorRegiment x, int apart, int left) {
        CHECK.due("wings(0)", x.wings(0), apart);
        CHECK.due("wings(1)", x.wings(1), left);
    }

    private static void wings() {
        wings(worn(), 0, 0);
        wings(worn(7), 7, 1);
        wings(worn(7, 7), 0, 1);
        wings(worn(10, 20, 30), 0, 3);
        wings(worn(30, 20, 10), 0, 1);
        wings(worn(5, 5, 5, 5), 0, 3);
        wings(worn(0, 0, 5, 5), 0, 5);
        wings(worn(0, 0), 0, 1);
        wings(worn(3, 1, 1, 2, 2, 1), 0, 7);
        // of 39: 9 with 6 and 5 is 20
        wings(worn(9, 8, 7, 6, 5, 4), 1, 25);
        TailorRegiment x = worn(9, 8, 7, 6);
        x.doff(0);
        // of 8, 7, 6: 8 against 13, or 15 against 6, or 14 against 7
        wings(x, 5, 2);
        CHECK.due("wings(2)", x.wings(2), -1);
        CHECK.due("wings(-1)", x.wings(-1), -1);
    }

    private static String coats(int bolt, int... tallWide) {
        StringBuilder b = new StringBuilder("bolt " + bolt + ";");
        for (int i = 0; i + 1 < tallWide.length; i += 2) {
            b.append("coat ").append((char) ('a' + i)).append(" tall ").append(tallWide[i]).append(" wide ")
                    .append(tallWide[i + 1]).append(';');
        }
        return b.toString();
    }

    private static void cloth(int due, int bolt, int... tallWide) {
        CHECK.due("cloth() of " + coats(bolt, tallWide), Check.regiment(coats(bolt, tallWide)).cloth(), due);
    }

    private static void cloth() {
        cloth(0, 0);
        cloth(0, 10, 0, 5);
        cloth(5, 10, 5, 10);
        cloth(-1, 9, 5, 10);
        cloth(-1, 9, 5, 9, 3, 10);
        cloth(7, 20, 5, 10, 7, 10);
        cloth(12, 19, 5, 10, 7, 10);
        cloth(9, 0, 9, 0, 4, 0);
        cloth(21, 10, 1, 10, 2, 10, 3, 10, 4, 10, 5, 10, 6, 10);
        cloth(6, 60, 1, 10, 2, 10, 3, 10, 4, 10, 5, 10, 6, 10);
        cloth(12, 20, 1, 10, 2, 10, 3, 10, 4, 10, 5, 10, 6, 10);
        cloth(9, 30, 1, 10, 2, 10, 3, 10, 4, 10, 5, 10, 6, 10);
        CHECK.due("bolt 150 if not told", Check.regiment("coat a tall 3 wide 75;coat b tall 4 wide 75;").cloth(), 4);
        CHECK.due("bolt 150 if not told", Check.regiment("coat a tall 3 wide 76;coat b tall 4 wide 75;").cloth(), 7);
        TailorRegiment x = Check.regiment("bolt 9;man a tall 1 wide 1;coat a tall 5 wide 10;");
        CHECK.due("too wide", x.cloth(), -1);
        x.don(0, 0);
        x.takein(0, 1);
        x.hem(0, 2);
        CHECK.due("worn or not, as it is now", x.cloth(), 3);
    }

    private static void clothNeedsSearch() {
        // the tallest with 6 wide beside it must take 3 and 1, not 4
        cloth(20, 10, 10, 6, 9, 3, 9, 1, 10, 7, 1, 3);
        // to fill the first row by the next tallest that fits is not the least
        cloth(18, 10, 10, 5, 9, 3, 8, 5, 8, 5, 8, 2);
    }

    private static void colours(String text, int many, int... lying) {
        TailorRegiment x = Check.regiment(text);
        CHECK.due("buttons() of " + text, x.buttons(), many);
        CHECK.due("about(13)", x.about(13), lying.length);
        for (int i = 0; i < lying.length; i++) {
            CHECK.due("lies(" + i + ") of " + text, x.lies(i), lying[i]);
        }
        CHECK.due("none behind them", x.lies(lying.length), -2);
    }

    private static String talls(int like, int... talls) {
        StringBuilder b = new StringBuilder("like " + like + ";");
        for (int i = 0; i < talls.length; i++) {
            b.append("man ").append((char) ('a' + i)).append(" tall ").append(talls[i]).append(" wide 1;");
        }
        return b.toString();
    }

    private static void buttons() {
        colours("", 0);
        colours(talls(0, 5), 1, 0);
        colours(talls(0, 5, 6), 1, 0, 0);
        colours(talls(0, 5, 5), 2, 0, 1);
        colours(talls(1, 5, 6), 2, 0, 1);
        colours(talls(1, 5, 7), 1, 0, 0);
        colours(talls(99, 0, 99, 50, 20, 70, 10), 6, 0, 1, 2, 3, 4, 5);
        colours("man a tall 5 wide 1;man b tall 7 wide 1;man c tall 8 wide 1;", 2, 0, 1, 0);
        // a like path 10 - 12 - 14 - 16, told from outside in: two must do
        colours(talls(2, 10, 16, 12, 14), 2, 0, 1, 1, 0);
        colours(talls(2, 10, 12, 14, 16), 2, 0, 1, 0, 1);
        colours(talls(3, 10, 20, 12, 18, 14, 16), 2, 0, 1, 1, 0, 0, 1);
    }

    private static void rests(TailorRegiment x, int man, int other, int due, int... lying) {
        CHECK.due("reach(" + man + ", " + other + ")", x.reach(man, other), due);
        CHECK.due("about(13)", x.about(13), lying.length);
        for (int i = 0; i < lying.length; i++) {
            CHECK.due("lies(" + i + ")", x.lies(i), lying[i]);
        }
    }

    private static void reach() {
        TailorRegiment x = Check.regiment("man a tall 9 wide 10;man b tall 9 wide 20;man c tall 9 wide 11;"
                + "coat a tall 9 wide 20;coat b tall 9 wide 10;coat c tall 9 wide 50;");
        // each in the other's coat would get none by reaching for his own
        rests(x, 0, 1, 2, 0, 1);
        rests(x, 1, 0, 2, 0, 1);
        // a and c both want b; the other then takes a
        rests(x, 0, 2, 2, 0, 1);
        rests(x, 2, 0, 2, 0, 1);
        x.don(1, 0);
        // free are b and c
        rests(x, 0, 2, 2, 1, 2);
        rests(x, 0, 1, 2, 1, 2);
        x.don(0, 1);
        // one is left: both reach for it, neither has another
        rests(x, 0, 1, 1, 2, 2);
        x.don(2, 2);
        rests(x, 0, 1, -1);
        x.doff(1);
        // the first is free, those behind it are not
        rests(x, 0, 1, 1, 0, 0);
        x.doff(2);
        rests(x, 0, 0, -1);
        for (int far : new int[] {-1, 3, Integer.MIN_VALUE, Integer.MAX_VALUE}) {
            x.dress(0);
            rests(x, far, 0, -1);
            x.dress(0);
            rests(x, 0, far, -1);
        }
        rests(Check.regiment("man a tall 1 wide 1;man b tall 1 wide 1;"), 0, 1, -1);
        CHECK.due("nothing is done", x.about(7), 5);
    }

    private static void reachOfLikeOnes() {
        TailorRegiment like = Check.regiment("ill 4;man a tall 1 wide 1;man b tall 1 wide 1;coat a tall 1 wide 1;"
                + "coat b tall 1 wide 1;coat c tall 1 wide 1;");
        // any two that differ
        rests(like, 0, 1, 6, 0, 1);
        // even one that sits ill by 999 is better than none, as by 1,000
        TailorRegiment ill = Check.regiment("ill 999;man a tall 1 wide 1;man b tall 1 wide 1;coat a tall 1 wide 1;"
                + "coat b tall 1 wide 1;");
        rests(ill, 0, 1, 2, 0, 1);
        // what he wears does not count
        ill.don(0, 0);
        rests(ill, 0, 1, 1, 1, 1);
        TailorRegiment fifteen = Check.regiment("ill tight+loose;man a tall 1 wide 30;man b tall 1 wide 31;"
                + "coat a tall 1 wide 10;coat b tall 1 wide 30;coat c tall 1 wide 30;");
        rests(fifteen, 0, 1, 2, 1, 2);
    }

    private static void breadth() {
        TailorRegiment x = worn(10, 40, 20);
        CHECK.due("breadth()", x.breadth(), 70);
        x.doff(1);
        CHECK.due("breadth()", x.breadth(), 30);
        x.takein(2, 5);
        CHECK.due("breadth()", x.breadth(), 25);
        x.doff(0);
        x.doff(2);
        CHECK.due("breadth()", x.breadth(), 0);
        CHECK.due("breadth() of none", new TailorRegiment().breadth(), 0);
        CHECK.due("all six", worn(99, 99, 99, 99, 99, 99).breadth(), 594);
    }

    private static void liesStays() {
        TailorRegiment x = Check.regiment("like 0;man a tall 9 wide 1;man b tall 9 wide 9;coat a tall 9 wide 9;");
        CHECK.due("buttons()", x.buttons(), 2);
        x.don(0, 0);
        x.day();
        x.undo();
        x.front(1, 0);
        x.image(0);
        x.back(0);
        x.rota(0);
        CHECK.due("lies(0)", x.lies(0), 0);
        CHECK.due("lies(1)", x.lies(1), 1);
        CHECK.due("dress(0)", x.dress(0), 1);
        CHECK.due("lies(0) of the dressing", x.lies(0), -1);
        CHECK.due("lies(1) of the dressing", x.lies(1), 0);
        for (int far : FAR) {
            CHECK.due("lies(" + far + ")", x.lies(far), -2);
        }
    }
}
