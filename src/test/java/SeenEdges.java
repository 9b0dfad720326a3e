/** The fourth terms (SEEN, GROWTHS and ASK), promises 40 to 48 and the constant, sentence by sentence. */
final class SeenEdges {
    private static final int TERMS = Quotes.TERMS;
    private static final int MIN = Integer.MIN_VALUE;
    private static final int MAX = Integer.MAX_VALUE;
    private static final String MAN = "man a tall 5 wide 5;";
    private static final String COAT = "coat a tall 5 wide 5;";
    /** Behind d days at growth g it sits ill by g * d, and fits by 20. */
    private static final String PLAIN = MAN + COAT + "ill tight;easy 20;";

    private final Quotes q;

    SeenEdges(Quotes q) {
        this.q = q;
    }

    void run() {
        toldAndUntold();
        asTold();
        knownAt();
        termGrowths();
        termAsk();
        constant();
        seen();
        untell();
        later();
        growths();
        sure();
        ask();
        image();
        back();
        about();
        aboutOthers();
    }

    private static TailorRegiment of(String text) {
        return Check.regiment(text);
    }

    private void toldAndUntold() {
        q.says(TERMS, "SEEN, 30 at most, is TOLD at a TIME (0 at first, goes on), UNTOLD at a later one or the same,");
        TailorRegiment x = of(PLAIN);
        q.due("0 at first", x.about(10), 0);
        for (int i = 0; i < 30; i++) {
            q.due("seen " + i, x.seen(0, true), i);
        }
        q.due("30 at most", x.seen(0, true), -1);
        q.due("goes on", x.later(3), 3);
        q.due("untold later", x.untell(0), true);
        q.due("an untold one counts among the 30", x.seen(0, true), -1);
        TailorRegiment same = of(PLAIN);
        same.seen(20, true);
        q.due("told: g 0 and 1", same.growths(0), 2);
        q.due("untold at the same", same.untell(0), true);
        q.due("untold at the same", same.growths(0), 31);
    }

    private void asTold() {
        q.says(TERMS, "of the first MAN in the first COAT as they were told (day 0, nothing else done, no rain, he never"
                + " takes it off), but for how much he grows, which is not known: that behind so many DAYS (0 .. 20) it"
                + " did FIT, or did not.");
        // the acts before it change nothing: behind 2 days g up to 10 fit
        TailorRegiment x = of("man a tall 5 wide 5 grows 9;man b tall 5 wide 50;coat a tall 5 wide 5 seam 9;"
                + "coat b tall 5 wide 50;ill tight;easy 20;rain 100;");
        x.don(0, 0);
        x.day();
        x.day();
        x.letout(0, 3);
        x.seen(2, true);
        q.due("as they were told", x.growths(0), 11);
        TailorRegiment first = of("man a tall 5 wide 5;man b tall 5 wide 50;coat b tall 5 wide 4;coat a tall 5 wide 50;"
                + "ill tight;easy 20;");
        first.seen(1, true);
        q.due("the first man, the first coat", first.growths(0), 20);
        TailorRegiment tall = of("ill short*9+long*99+tight;easy 20;man a tall 7 wide 5;man b tall 9 wide 5;"
                + "coat a tall 5 wide 5;coat b tall 9 wide 5;");
        tall.seen(1, true);
        q.due("short 2: g up to 2", tall.growths(0), 3);
        Check.tell(tall, "ill tight+long;easy 20;man a tall 5 wide 5;coat a tall 9 wide 5;");
        tall.regiment();
        q.due("told anew", tall.growths(0), 31);
        tall.seen(1, true);
        q.due("long 4: g up to 16", tall.growths(0), 17);
        TailorRegiment off = of("ill day=1;easy 0;" + MAN + COAT);
        off.seen(2, true);
        q.due("he never takes it off", off.growths(0), 31);
        off.seen(1, false);
        q.due("though it did not fit behind 1", off.growths(0), 31);
        TailorRegiment day = of("ill day;easy 19;" + MAN + COAT);
        day.seen(0, true);
        day.seen(19, true);
        q.due("behind 0 and 19", day.growths(0), 31);
        day.seen(20, false);
        q.due("not behind 20", day.growths(0), 31);
        day.seen(20, true);
        q.due("both can't be", day.growths(0), 0);
        TailorRegiment worn = of("ill worn;easy 98;man a tall 5 wide 5;coat a tall 5 wide 5 worn 80;");
        worn.seen(18, true);
        worn.seen(19, false);
        worn.seen(20, false);
        q.due("worn by the days, 99 at most", worn.growths(0), 31);
        TailorRegiment wide = of("ill tight;easy 9;man a tall 5 wide 90;coat a tall 5 wide 90;");
        wide.seen(20, true);
        q.due("wide 99 at most", wide.growths(0), 31);
    }

    private void knownAt() {
        q.says(TERMS, "As known at k that counts that was TOLD at k or before, not UNTOLD at k or before.");
        TailorRegiment x = of(PLAIN);
        x.later(5);
        x.seen(20, true);
        x.later(5);
        x.untell(0);
        int[][] due = {{MIN, 31}, {-1, 31}, {0, 31}, {4, 31}, {5, 2}, {6, 2}, {9, 2}, {10, 31}, {11, 31}, {MAX, 31}};
        for (int[] d : due) {
            q.due("growths(" + d[0] + ")", x.growths(d[0]), d[1]);
        }
    }

    private void termGrowths() {
        q.says(TERMS, "GROWTHS: how much he may grow (0 .. 30) by which all that counts is so.");
        TailorRegiment x = of(PLAIN);
        q.due("all", x.growths(0), 31);
        q.due("from", x.sure(0, 0), 0);
        q.due("to", x.sure(1, 0), 30);
        x.seen(4, true);
        x.seen(7, false);
        q.due("3, 4, 5", x.growths(0), 3);
        q.due("from", x.sure(0, 0), 3);
        q.due("to", x.sure(1, 0), 5);
        TailorRegiment most = of(MAN + COAT + "ill tight;easy 29;");
        most.seen(1, false);
        q.due("30 alone", most.growths(0), 1);
        q.due("from", most.sure(0, 0), 30);
        q.due("to", most.sure(1, 0), 30);
        TailorRegiment least = of(MAN + COAT + "ill tight;easy 0;");
        least.seen(1, true);
        q.due("0 alone", least.growths(0), 1);
        q.due("from", least.sure(0, 0), 0);
        q.due("to", least.sure(1, 0), 0);
    }

    private void termAsk() {
        q.says(TERMS, "ASK: the number of DAYS (0 .. 20) behind which to know whether it did FIT would leave the fewest of"
                + " these at the most; of like ones the least.");
        TailorRegiment x = of(PLAIN);
        // those up to 20 / d fit: behind 1 day 21 of 31, behind 2 days 11, behind 3 days 7
        q.due("2 days", x.ask(0, 0), 2);
        q.due("leave 20", x.ask(1, 0), 20);
        TailorRegiment none = of("ill 0;" + MAN + COAT);
        q.due("none parts them: the least", none.ask(0, 0), 0);
        q.due("all are left", none.ask(1, 0), 31);
        TailorRegiment last = of(MAN + COAT + "ill tight;easy 19;");
        last.seen(10, true);
        q.due("only 20 days part 0 and 1", last.ask(0, 0), 20);
        q.due("one is left", last.ask(1, 0), 1);
        TailorRegiment one = of(MAN + COAT + "ill tight;easy 0;");
        one.seen(1, true);
        q.due("one growth: the least", one.ask(0, 0), 0);
        q.due("one is left", one.ask(1, 0), 1);
        TailorRegiment half = of(MAN + COAT + "ill tight;easy 15;");
        q.due("16 and 15", half.ask(0, 0), 1);
        q.due("16 at the most", half.ask(1, 0), 16);
    }

    private void constant() {
        q.says(TERMS, "The constants: `NONE = -1`: There is none.");
        q.due("NONE", TailorRegiment.NONE, -1);
    }

    private void seen() {
        q.says(40, "A SEEN (DAYS 0 .. 20): its number;");
        TailorRegiment x = of(PLAIN);
        q.due("0 days", x.seen(0, true), 0);
        q.due("20 days", x.seen(20, false), 1);
        q.due("the same again", x.seen(20, false), 2);
        q.says(40, "NONE, doing nothing, if one can't be, there are 30, no MEN, or no COATS.");
        for (int days : new int[] {-1, 21, MIN, MAX}) {
            q.due("seen(" + days + ", true)", x.seen(days, true), -1);
            q.due("seen(" + days + ", false)", x.seen(days, false), -1);
        }
        q.due("doing nothing", x.about(9), 3);
        for (int i = 3; i < 30; i++) {
            x.seen(20, false);
        }
        q.due("there are 30", x.seen(20, true), -1);
        q.due("doing nothing", x.about(9), 30);
        q.due("doing nothing", x.growths(0), 29);
        TailorRegiment coats = of(COAT);
        q.due("no men", coats.seen(0, true), -1);
        q.due("doing nothing", coats.about(9), 0);
        TailorRegiment men = of(MAN);
        q.due("no coats", men.seen(0, true), -1);
        q.due("doing nothing", men.about(9), 0);
        q.due("an empty one", new TailorRegiment().seen(0, true), -1);
    }

    private void untell() {
        q.says(41, "It is UNTOLD: true;");
        TailorRegiment x = of(PLAIN);
        x.seen(20, true);
        x.seen(0, false);
        q.due("none can be", x.growths(0), 0);
        q.due("untell(1)", x.untell(1), true);
        q.due("2 then", x.growths(0), 2);
        q.due("untell(0)", x.untell(0), true);
        q.due("all then", x.growths(0), 31);
        q.says(41, "false if it is so already, or there is none such.");
        q.due("already", x.untell(0), false);
        x.later(1);
        q.due("already, later", x.untell(1), false);
        for (int far : new int[] {-1, 2, 29, 30, MIN, MAX}) {
            q.due("untell(" + far + ")", x.untell(far), false);
        }
        q.due("in an empty one", new TailorRegiment().untell(0), false);
        x.seen(20, true);
        x.untell(2);
        q.due("untold at 1, not at 0", x.growths(0), 31);
        q.due("the numbers go on", x.seen(0, true), 3);
    }

    private void later() {
        q.says(42, "So much later (0 .. 1000): the TIME;");
        TailorRegiment x = new TailorRegiment();
        q.due("0", x.later(0), 0);
        q.due("1", x.later(1), 1);
        q.due("1000", x.later(1000), 1001);
        q.due("0", x.later(0), 1001);
        q.says(42, "NONE, doing nothing, for another number, or if it would be above 100,000.");
        for (int by : new int[] {-1, 1001, MIN, MAX}) {
            q.due("later(" + by + ")", x.later(by), -1);
            q.due("doing nothing", x.about(10), 1001);
        }
        for (int i = 0; i < 98; i++) {
            x.later(1000);
        }
        q.due("99,001", x.about(10), 99001);
        q.due("100,001", x.later(1000), -1);
        q.due("doing nothing", x.about(10), 99001);
        q.due("100,000", x.later(999), 100000);
        q.due("above", x.later(1), -1);
        q.due("no later", x.later(0), 100000);
    }

    private void growths() {
        q.says(43, "GROWTHS: how many (0 without MEN, without COATS).");
        q.due("without men", of(COAT).growths(0), 0);
        q.due("without coats", of(MAN).growths(0), 0);
        q.due("in an empty one", new TailorRegiment().growths(0), 0);
        TailorRegiment x = of(PLAIN);
        for (int k : new int[] {0, -1, 100000, MIN, MAX}) {
            q.due("growths(" + k + ")", x.growths(k), 31);
        }
        x.seen(0, false);
        q.due("none", x.growths(0), 0);
        q.due("none", x.growths(MAX), 0);
        q.due("before", x.growths(-1), 31);
    }

    private void sure() {
        q.says(44, "The least of GROWTHS (what 0), the greatest (1);");
        TailorRegiment x = of(PLAIN);
        q.due("sure(0, 0)", x.sure(0, 0), 0);
        q.due("sure(1, 0)", x.sure(1, 0), 30);
        x.later(2);
        x.seen(1, false);
        q.due("sure(0, 2)", x.sure(0, 2), 21);
        q.due("sure(1, 2)", x.sure(1, 2), 30);
        q.due("sure(0, 1)", x.sure(0, 1), 0);
        q.says(44, "NONE if there are none, or for another what.");
        for (int what : new int[] {-1, 2, MIN, MAX}) {
            q.due("sure(" + what + ", 0)", x.sure(what, 0), -1);
        }
        x.seen(1, true);
        q.due("there are none: sure(0, 2)", x.sure(0, 2), -1);
        q.due("there are none: sure(1, 2)", x.sure(1, 2), -1);
        q.due("without men", of(COAT).sure(0, 0), -1);
        q.due("without coats", of(MAN).sure(1, 0), -1);
    }

    private void ask() {
        q.says(45, "ASK what 0: the number of DAYS, 1: how many are left at the most;");
        TailorRegiment x = of(PLAIN);
        x.later(2);
        x.seen(2, true);
        // of 0 .. 10: behind 3 days 7 and 4, behind 4 days 6 and 5, behind 5 days 5 and 6
        q.due("ask(0, 2)", x.ask(0, 2), 4);
        q.due("ask(1, 2)", x.ask(1, 2), 6);
        q.due("ask(0, 1)", x.ask(0, 1), 2);
        q.due("ask(1, 1)", x.ask(1, 1), 20);
        q.says(45, "NONE if there are no GROWTHS, or for another what.");
        for (int what : new int[] {-1, 2, MIN, MAX}) {
            q.due("ask(" + what + ", 2)", x.ask(what, 2), -1);
        }
        x.seen(2, false);
        q.due("no growths: ask(0, 2)", x.ask(0, 2), -1);
        q.due("no growths: ask(1, 2)", x.ask(1, 2), -1);
        q.due("without men", of(COAT).ask(0, 0), -1);
        q.due("without coats", of(MAN).ask(1, 0), -1);
    }

    private static TailorRegiment kept() {
        TailorRegiment x = of("man a tall 5 wide 5 grows 2;man b tall 5 wide 5;coat a tall 9 wide 9 seam 4 worn 1;"
                + "coat b tall 8 wide 8;easy 99;rain 100;draw 7;");
        x.don(0, 1);
        x.day();
        x.turn(0);
        return x;
    }

    private void image() {
        q.says(46, "WIDE of MEN, who WEARS what, COATS, the day, the SEED are kept in a BOX 0 .. 2: the day;");
        TailorRegiment x = kept();
        q.due("image(0)", x.image(0), 1);
        x.day();
        q.due("image(1)", x.image(1), 2);
        x.day();
        q.due("image(2)", x.image(2), 3);
        q.due("no act", x.about(7), 5);
        q.due("each its own: 1", x.back(1), 2);
        q.due("each its own: 0", x.back(0), 1);
        q.due("each its own: 2", x.back(2), 3);
        q.due("kept anew", x.image(0), 3);
        x.back(1);
        q.due("the later one is kept", x.back(0), 3);
        q.due("an empty one", new TailorRegiment().image(2), 0);
        q.says(46, "NONE if there is none such.");
        for (int box : new int[] {-1, 3, 31, 32, 33, -32, MIN, MAX}) {
            q.due("image(" + box + ")", x.image(box), -1);
            q.due("nothing was kept: back(" + box + ")", x.back(box), -1);
        }
    }

    private void back() {
        q.says(47, "All is as it was kept (no ACTS are kept then): the day;");
        TailorRegiment x = kept();
        x.image(2);
        x.don(1, 0);
        x.day();
        x.letout(0, 2);
        x.hem(1, 3);
        x.takein(1, 1);
        x.turn(1);
        x.doff(0);
        x.undo();
        q.due("the day", x.back(2), 1);
        // the seed 7 became 959 + 71
        int[] due = {7, 5, 1, -1, 1, 30};
        int[] got = {x.man(0, 1), x.man(1, 1), x.man(0, 3), x.man(1, 3), x.about(5), x.about(6)};
        for (int i = 0; i < due.length; i++) {
            q.due("as it was kept: " + i, got[i], due[i]);
        }
        int[][] coats = {{9, 9, 4, 0, 1, -1}, {7, 7, 0, 1, 0, 0}};
        for (int coat = 0; coat < 2; coat++) {
            for (int what = 0; what < 6; what++) {
                q.due("as it was kept: coat(" + coat + ", " + what + ")", x.coat(coat, what), coats[coat][what]);
            }
        }
        q.due("no acts: about(7)", x.about(7), 0);
        q.due("no acts: about(8)", x.about(8), 0);
        q.due("no undo", x.undo(), false);
        q.due("no redo", x.redo(), false);
        x.day();
        q.due("gone on from", x.about(5), 2);
        q.due("back again", x.back(2), 1);
        q.says(47, "NONE, doing nothing, if nothing was.");
        TailorRegiment y = kept();
        y.undo();
        y.image(1);
        for (int box : new int[] {0, 2, -1, 3, 32, MIN, MAX}) {
            q.due("back(" + box + ")", y.back(box), -1);
        }
        q.due("doing nothing: acts", y.about(7), 2);
        q.due("doing nothing: redo", y.about(8), 1);
        q.due("doing nothing: the day", y.about(5), 1);
        q.due("in an empty one", new TailorRegiment().back(0), -1);
    }

    private void about() {
        q.says(48, "What 0: MEN, 1: COATS, 2: easy, 3: bolt, 4: like, 5: the day, 6: the SEED, 7: ACTS that can be undone,"
                + " 8: redone, 9: what is SEEN, 10: the TIME, 11: bytes on the TAPE, 12: units, 13: numbers that lie there.");
        TailorRegiment x = of("man a tall 5 wide 5;man b tall 5 wide 5;man c tall 5 wide 5;" + COAT + "coat b tall 5 wide 5;"
                + "easy 900;bolt 901;like 90;draw 9;ill 1+(tight*2);");
        x.later(70);
        for (int i = 0; i < 4; i++) {
            x.day();
        }
        x.undo();
        x.undo();
        for (int i = 0; i < 6; i++) {
            x.seen(i, true);
        }
        x.feed(0, 0, 0, 0, 0);
        x.end(17);
        x.reach(0, 1);
        // the seeds from 9: 304, 719
        int[] due = {3, 2, 900, 901, 90, 2, 719, 2, 2, 6, 70, 17, 4, 2};
        for (int what = 0; what < due.length; what++) {
            q.due("about(" + what + ")", x.about(what), due[what]);
        }
        x.buttons();
        q.due("three colours lie there", x.about(13), 3);
    }

    private void aboutOthers() {
        q.says(48, "NONE for another what.");
        for (int what : new int[] {-1, 14, 15, MIN, MAX}) {
            q.due("about(" + what + ")", new TailorRegiment().about(what), -1);
        }
    }
}
