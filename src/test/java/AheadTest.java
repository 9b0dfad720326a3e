/** Promises 18, 19, 37, 38: will, out, rout, odds. */
public final class AheadTest {
    private static final Check CHECK = new Check("AheadTest");

    public static void main(String[] args) {
        will();
        willInRain();
        out();
        sixty();
        rout();
        beyondTheLastDay();
        odds();
        CHECK.finish();
    }

    private static void will() {
        // behind d days: tight 3 * 2 * d + worn d, easy 20: 7 * 2 = 14 fits, 7 * 3 = 21 does not
        TailorRegiment x = Check.regiment("man a tall 5 wide 5 grows 2;man b tall 5 wide 5;coat a tall 5 wide 5;"
                + "coat b tall 5 wide 5;easy 20;");
        x.don(0, 1);
        CHECK.due("will(0, 0, 0)", x.will(0, 0, 0), 1);
        CHECK.due("will(0, 2, 0)", x.will(0, 2, 0), 1);
        CHECK.due("will(0, 3, 0)", x.will(0, 3, 0), -1);
        CHECK.due("will(0, 60, 1)", x.will(0, 60, 1), -1);
        CHECK.due("will(1, 5, 0)", x.will(1, 5, 0), -1);
        int[][] wrong = {{-1, 0, 0}, {2, 0, 0}, {0, -1, 0}, {0, 61, 0}, {0, 1, -1}, {0, 1, 2},
            {Integer.MIN_VALUE, 1, 1}, {0, Integer.MAX_VALUE, 1}, {0, 1, Integer.MAX_VALUE}};
        for (int[] w : wrong) {
            CHECK.due("will(" + w[0] + ", " + w[1] + ", " + w[2] + ")", x.will(w[0], w[1], w[2]), -2);
        }
        CHECK.due("nothing is done: day", x.about(5), 0);
        CHECK.due("nothing is done: wide", x.man(0, 1), 5);
        CHECK.due("nothing is done: worn", x.coat(1, 3), 0);
        CHECK.due("nothing is done: seed", x.about(6), 0);
    }

    private static void willInRain() {
        // seeds from 9: 304, 719, 574, 709: it rains at once, at 19, not at 74, then at 9
        TailorRegiment x = Check.regiment("man a tall 5 wide 5;coat a tall 5 wide 5;ill tight;easy 2;rain 20;draw 9;");
        x.don(0, 0);
        CHECK.due("no rain", x.will(0, 60, 0), 0);
        CHECK.due("rain, 3", x.will(0, 3, 1), 0);
        CHECK.due("rain, 4", x.will(0, 4, 1), -1);
        CHECK.due("out is without rain", x.out(0), -1);
        CHECK.due("rout is without rain", x.rout(), -1);
        x.day();
        CHECK.due("rain from the seed now, 2", x.will(0, 2, 1), 0);
        CHECK.due("rain from the seed now, 3", x.will(0, 3, 1), -1);
        // the seed 17 becomes 400, of 100 nothing: the wettest day there is
        TailorRegiment wet = Check.regiment("man a tall 5 wide 5;coat a tall 5 wide 5;ill tight;easy 0;rain 1;draw 17;");
        wet.don(0, 0);
        CHECK.due("the wettest day", wet.will(0, 1, 1), -1);
        CHECK.due("the wettest day without rain", wet.will(0, 1, 0), 0);
        CHECK.due("out without rain", wet.out(0), -1);
        CHECK.due("rout without rain", wet.rout(), -1);
    }

    private static void out() {
        TailorRegiment x = Check.regiment("man a tall 5 wide 5 grows 2;man b tall 5 wide 5;man c tall 9 wide 5;"
                + "coat a tall 5 wide 5;coat b tall 5 wide 5 worn 18;easy 20;");
        CHECK.due("out(0) of none", x.out(0), 0);
        x.don(0, 0);
        x.don(1, 1);
        CHECK.due("out(0)", x.out(0), 3);
        CHECK.due("18 + 3 is above 20", x.out(1), 3);
        CHECK.due("out(2) of none", x.out(2), 0);
        for (int far : new int[] {-1, 3, Integer.MIN_VALUE, Integer.MAX_VALUE}) {
            CHECK.due("out(" + far + ")", x.out(far), -1);
        }
        TailorRegiment ill = Check.regiment("man a tall 5 wide 5;coat a tall 5 wide 5;easy 0;ill 3-day;");
        ill.don(0, 0);
        CHECK.due("ill at first: off at the next day", ill.out(0), 1);
        CHECK.due("rout()", ill.rout(), 1);
    }

    private static void sixty() {
        TailorRegiment last = Check.regiment("man a tall 5 wide 5;coat a tall 5 wide 5;ill worn;easy 59;");
        last.don(0, 0);
        CHECK.due("out at 60", last.out(0), 60);
        CHECK.due("rout at 60", last.rout(), 60);
        CHECK.due("will(0, 59, 0)", last.will(0, 59, 0), 0);
        CHECK.due("will(0, 60, 0)", last.will(0, 60, 0), -1);
        TailorRegiment later = Check.regiment("man a tall 5 wide 5;coat a tall 5 wide 5;ill worn;easy 60;");
        later.don(0, 0);
        CHECK.due("not in 60", later.out(0), -1);
        CHECK.due("no rout in 60", later.rout(), -1);
    }

    private static void rout() {
        TailorRegiment x = Check.regiment("man a tall 5 wide 5;man b tall 5 wide 5;coat a tall 5 wide 5 worn 5;"
                + "coat b tall 5 wide 5 worn 2;");
        CHECK.due("nobody wears any", x.rout(), 0);
        x.don(0, 0);
        CHECK.due("5 + 6 is above 10", x.rout(), 6);
        x.don(1, 1);
        CHECK.due("the last of them", x.rout(), 9);
        CHECK.due("the empty one", new TailorRegiment().rout(), 0);
        CHECK.due("nothing is done", x.man(1, 3), 1);
    }

    private static void beyondTheLastDay() {
        TailorRegiment x = Check.regiment("man a tall 5 wide 5;coat a tall 5 wide 5;ill (day>1001)*9;easy 5;");
        // more calls than the 512 that the document speaks of: the class keeps to its word all the same
        for (int i = 0; i < 999; i++) {
            x.day();
        }
        x.don(0, 0);
        CHECK.due("day()", x.day(), -1);
        CHECK.due("behind day 999", x.out(0), 3);
        CHECK.due("will(0, 2, 1)", x.will(0, 2, 1), 0);
        CHECK.due("will(0, 3, 1)", x.will(0, 3, 1), -1);
        CHECK.due("rout()", x.rout(), 3);
    }

    private static void odds(int rain, int n, int upper, int lower) {
        TailorRegiment x = Check.regiment("rain " + rain + ";draw " + rain + ";");
        CHECK.due(rain + ": odds(" + n + ", 0)", x.odds(n, 0), upper);
        CHECK.due(rain + ": odds(" + n + ", 1)", x.odds(n, 1), lower);
    }

    private static void odds() {
        odds(0, 0, 1, 1);
        odds(0, 4, 1, 1);
        odds(100, 0, 1, 1);
        odds(100, 1, 0, 1);
        odds(100, 4, 0, 1);
        odds(50, 4, 1, 16);
        odds(30, 2, 49, 100);
        odds(25, 3, 27, 64);
        odds(1, 4, 96059601, 100000000);
        odds(99, 4, 1, 100000000);
        odds(40, 3, 27, 125);
        odds(98, 2, 1, 2500);
        TailorRegiment x = Check.regiment("rain 50;");
        int[][] wrong = {{-1, 0}, {5, 0}, {1, -1}, {1, 2}, {Integer.MAX_VALUE, 1}, {Integer.MIN_VALUE, 1}};
        for (int[] w : wrong) {
            CHECK.due("odds(" + w[0] + ", " + w[1] + ")", x.odds(w[0], w[1]), -1);
        }
        CHECK.due("without rain told", new TailorRegiment().odds(3, 1), 1);
    }
}
