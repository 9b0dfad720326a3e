/** Promises 40 to 45: seen, untell, later, growths, sure, ask. */
public final class SeenTest {
    private static final Check CHECK = new Check("SeenTest");
    /** Behind d days at growth g it sits ill by g * d, and fits by 20. */
    private static final String PLAIN = "man a tall 9 wide 9 grows 9;man b tall 1 wide 1;coat a tall 9 wide 9;"
            + "coat b tall 1 wide 1;ill tight;easy 20;";

    public static void main(String[] args) {
        seen();
        thirty();
        untellAndTimes();
        later();
        growths();
        asTold();
        ask();
        CHECK.finish();
    }

    private static void seen() {
        TailorRegiment x = Check.regiment(PLAIN);
        CHECK.due("seen(0, true)", x.seen(0, true), 0);
        CHECK.due("seen(20, false)", x.seen(20, false), 1);
        for (int far : new int[] {-1, 21, Integer.MIN_VALUE, Integer.MAX_VALUE}) {
            CHECK.due("seen(" + far + ", true)", x.seen(far, true), -1);
        }
        CHECK.due("about(9)", x.about(9), 2);
        CHECK.due("no men", Check.regiment("coat a tall 1 wide 1;").seen(1, true), -1);
        CHECK.due("no coats", Check.regiment("man a tall 1 wide 1;").seen(1, true), -1);
        CHECK.due("growths without coats", Check.regiment("man a tall 1 wide 1;").growths(0), 0);
        CHECK.due("growths without men", Check.regiment("coat a tall 1 wide 1;").growths(0), 0);
        CHECK.due("sure without men", Check.regiment("coat a tall 1 wide 1;").sure(0, 0), -1);
        CHECK.due("ask without coats", Check.regiment("man a tall 1 wide 1;").ask(1, 0), -1);
    }

    private static void thirty() {
        TailorRegiment x = Check.regiment(PLAIN);
        for (int i = 0; i < 30; i++) {
            CHECK.due("seen", x.seen(i % 21, i % 21 == 0), i);
        }
        CHECK.due("there are 30", x.seen(1, true), -1);
        CHECK.due("untell(29)", x.untell(29), true);
        CHECK.due("there are 30 still", x.seen(1, true), -1);
        CHECK.due("about(9)", x.about(9), 30);
    }

    private static void untellAndTimes() {
        TailorRegiment x = Check.regiment(PLAIN);
        CHECK.due("later(5)", x.later(5), 5);
        CHECK.due("untell(0) of none", x.untell(0), false);
        x.seen(10, true);
        x.later(3);
        x.seen(5, false);
        x.later(2);
        CHECK.due("untell(0)", x.untell(0), true);
        CHECK.due("untell(0) again", x.untell(0), false);
        x.later(4);
        CHECK.due("untell(0) later", x.untell(0), false);
        CHECK.due("untell(2)", x.untell(2), false);
        CHECK.due("untell(-1)", x.untell(-1), false);
        CHECK.due("untell(max)", x.untell(Integer.MAX_VALUE), false);
        CHECK.due("untell(min)", x.untell(Integer.MIN_VALUE), false);
        // at 5: g * 10 <= 20; at 8: and g * 5 > 20, by none; at 10: g * 5 > 20 alone
        int[][] due = {{Integer.MIN_VALUE, 31}, {-1, 31}, {4, 31}, {5, 3}, {7, 3}, {8, 0}, {9, 0}, {10, 26}, {14, 26},
            {Integer.MAX_VALUE, 26}};
        for (int[] d : due) {
            CHECK.due("growths(" + d[0] + ")", x.growths(d[0]), d[1]);
        }
        CHECK.due("sure(0, 10)", x.sure(0, 10), 5);
        CHECK.due("sure(1, 10)", x.sure(1, 10), 30);
        CHECK.due("sure(0, 8)", x.sure(0, 8), -1);
        CHECK.due("sure(1, 8)", x.sure(1, 8), -1);
        CHECK.due("ask(0, 8)", x.ask(0, 8), -1);
        CHECK.due("ask(1, 8)", x.ask(1, 8), -1);
        TailorRegiment same = Check.regiment(PLAIN);
        same.seen(20, true);
        CHECK.due("growths(0)", same.growths(0), 2);
        same.untell(0);
        CHECK.due("untold at the same time", same.growths(0), 31);
        CHECK.due("untell(0) again", same.untell(0), false);
        same.later(1);
        same.seen(20, true);
        CHECK.due("untell(1)", same.untell(1), true);
        CHECK.due("untell(1) again", same.untell(1), false);
        CHECK.due("untold at 1", same.growths(1), 31);
        same.seen(0, false);
        CHECK.due("it fits at once, whatever he grows", same.growths(1), 0);
        CHECK.due("not known at 0", same.growths(0), 31);
    }

    private static void later() {
        TailorRegiment x = new TailorRegiment();
        CHECK.due("later(0)", x.later(0), 0);
        CHECK.due("later(-1)", x.later(-1), -1);
        CHECK.due("later(1001)", x.later(1001), -1);
        CHECK.due("later(min)", x.later(Integer.MIN_VALUE), -1);
        CHECK.due("later(max)", x.later(Integer.MAX_VALUE), -1);
        for (int i = 1; i <= 99; i++) {
            CHECK.due("later(1000)", x.later(1000), 1000 * i);
        }
        CHECK.due("later(999)", x.later(999), 99999);
        CHECK.due("later(2)", x.later(2), -1);
        CHECK.due("later(1)", x.later(1), 100000);
        CHECK.due("later(1) more", x.later(1), -1);
        CHECK.due("later(0)", x.later(0), 100000);
        CHECK.due("about(10)", x.about(10), 100000);
    }

    private static void growths() {
        TailorRegiment x = Check.regiment(PLAIN);
        CHECK.due("growths(0)", x.growths(0), 31);
        CHECK.due("sure(0, 0)", x.sure(0, 0), 0);
        CHECK.due("sure(1, 0)", x.sure(1, 0), 30);
        x.seen(4, true);
        CHECK.due("g <= 5: how many", x.growths(0), 6);
        CHECK.due("g <= 5: the greatest", x.sure(1, 0), 5);
        x.seen(7, false);
        CHECK.due("g >= 3: how many", x.growths(0), 3);
        CHECK.due("g >= 3: the least", x.sure(0, 0), 3);
        CHECK.due("g >= 3: the greatest", x.sure(1, 0), 5);
        CHECK.due("sure(2, 0)", x.sure(2, 0), -1);
        CHECK.due("sure(-1, 0)", x.sure(-1, 0), -1);
    }

    private static void asTold() {
        TailorRegiment x = Check.regiment("man a tall 9 wide 90 grows 1;coat a tall 9 wide 95 seam 3 worn 97;rain 100;"
                + "ill tight*100+worn;easy 500;");
        x.don(0, 0);
        x.day();
        x.day();
        x.letout(0, 2);
        x.turn(0);
        // he is 99 wide at most: tight 4 sits ill by 400 and worn 99
        x.seen(20, true);
        CHECK.due("99 at most, worn 99 at most", x.growths(0), 31);
        TailorRegiment y = Check.regiment("man a tall 9 wide 90 grows 1;coat a tall 9 wide 95 worn 97;"
                + "ill tight*100+worn;easy 498;");
        y.seen(1, true);
        // worn 98: g up to 9 is 99 wide
        CHECK.due("behind 1 day", y.growths(0), 31);
        y.seen(2, true);
        // worn 99: tight 4 is above, so 90 + 2 g <= 98
        CHECK.due("behind 2 days", y.growths(0), 5);
        TailorRegiment byDay = Check.regiment("man a tall 9 wide 9;coat a tall 9 wide 9;ill day;easy 4;");
        byDay.day();
        byDay.day();
        byDay.day();
        byDay.seen(4, true);
        CHECK.due("the day counts from 0", byDay.growths(0), 31);
        byDay.seen(5, true);
        CHECK.due("it fits by none at 5", byDay.growths(0), 0);
        TailorRegiment never = Check.regiment("man a tall 9 wide 9;coat a tall 9 wide 9;ill day=1;easy 0;");
        never.seen(2, true);
        CHECK.due("he never takes it off", never.growths(0), 31);
        TailorRegiment tall = Check.regiment("man a tall 9 wide 9;man b tall 3 wide 30;coat b tall 4 wide 9;"
                + "coat a tall 9 wide 9;ill short*10+tight;easy 50;");
        tall.seen(1, true);
        CHECK.due("the first man in the first coat", tall.growths(0), 1);
    }

    private static void ask() {
        TailorRegiment x = Check.regiment(PLAIN);
        // behind d days those up to 20 / d fit: d 1: 21 and 10; d 2: 11 and 20; d 20: 2 and 29
        CHECK.due("ask(0, 0)", x.ask(0, 0), 2);
        CHECK.due("ask(1, 0)", x.ask(1, 0), 20);
        x.seen(2, true);
        // of 0 .. 10: d 3: 7 and 4; d 4: 6 and 5; d 5: 5 and 6
        CHECK.due("ask(0, 0)", x.ask(0, 0), 4);
        CHECK.due("ask(1, 0)", x.ask(1, 0), 6);
        CHECK.due("as known before", x.ask(0, -1), 2);
        CHECK.due("ask(2, 0)", x.ask(2, 0), -1);
        CHECK.due("ask(-1, 0)", x.ask(-1, 0), -1);
        x.seen(20, true);
        x.seen(20, false);
        CHECK.due("none left", x.ask(0, 0), -1);
        x.untell(2);
        // 0 and 1 are left: none of 20 days parts them
        CHECK.due("of like ones the least", x.ask(0, 0), 0);
        CHECK.due("both are left", x.ask(1, 0), 2);
        TailorRegiment first = Check.regiment("man a tall 9 wide 9;coat a tall 9 wide 9;ill tight;easy 15;");
        CHECK.due("behind 1 day 16 and 15", first.ask(0, 0), 1);
        CHECK.due("16 at the most", first.ask(1, 0), 16);
        TailorRegiment last = Check.regiment("man a tall 9 wide 9;coat a tall 9 wide 9;ill tight;easy 19;");
        last.seen(10, true);
        CHECK.due("only 20 days part 0 and 1", last.ask(0, 0), 20);
        CHECK.due("one is left", last.ask(1, 0), 1);
    }
}
