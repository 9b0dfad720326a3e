/** The second terms (ill, a DAY, ACTS, UNDO and REDO) and promises 6 to 17, sentence by sentence. */
final class ActEdges {
    private static final int TERMS = Quotes.TERMS;
    private static final int MIN = Integer.MIN_VALUE;
    private static final int MAX = Integer.MAX_VALUE;
    private static final String MAN = "man a tall 5 wide 5;";
    private static final String COAT = "coat a tall 5 wide 5;";

    private final Quotes q;

    ActEdges(Quotes q) {
        this.q = q;
    }

    void run() {
        aMan();
        aCoat();
        illNotTold();
        facts();
        ints();
        leastAndMost();
        fits();
        grows();
        wears();
        seed();
        rains();
        takesOff();
        puttingOn();
        tailoring();
        undoAndRedo();
        forty();
        man();
        coat();
        misfit();
        day();
        don();
        doff();
        letout();
        takein();
        hem();
        turn();
        undo();
        redo();
    }

    private static TailorRegiment of(String text) {
        return Check.regiment(text);
    }

    private void aMan() {
        q.says(TERMS, "A MAN is so tall, so WIDE (as told, at first), WEARS a COAT or none (none, at first)");
        TailorRegiment x = of("man a tall 7 wide 8 grows 2;man b tall 9 wide 6;" + COAT);
        q.due("tall", x.man(0, 0), 7);
        q.due("wide at first", x.man(0, 1), 8);
        q.due("none at first", x.man(0, 3), -1);
        q.due("none at first", x.man(1, 3), -1);
        x.day();
        q.due("tall stays", x.man(0, 0), 7);
        q.due("wide then", x.man(0, 1), 10);
    }

    private void aCoat() {
        q.says(TERMS, "a COAT is so TALL, so WIDE, has so much SEAM, is so WORN (as told, at first), is TURNED or not"
                + " (not at first).");
        TailorRegiment x = of("coat a tall 7 wide 8 seam 9 worn 6;" + MAN);
        int[] due = {7, 8, 9, 6, 0, -1};
        for (int what = 0; what < due.length; what++) {
            q.due("coat(0, " + what + ")", x.coat(0, what), due[what]);
        }
    }

    private void illNotTold() {
        q.says(TERMS, "A COAT SITS ILL on a MAN by what comes of ill"
                + " (tight * 3 + loose + short * 2 + long + worn, if it is not told)");
        TailorRegiment x = of("man a tall 50 wide 50;coat a tall 50 wide 46;coat b tall 50 wide 54;coat c tall 46 wide 50;"
                + "coat d tall 54 wide 50;coat e tall 50 wide 50 worn 4;coat f tall 0 wide 0 worn 99;");
        int[] due = {12, 4, 8, 4, 4, 150 + 100 + 99};
        for (int coat = 0; coat < due.length; coat++) {
            q.due("misfit(0, " + coat + ")", x.misfit(0, coat), due[coat]);
        }
        q.due("the most", of("man a tall 99 wide 99;coat a tall 0 wide 0 worn 99;").misfit(0, 0), 297 + 198 + 99);
        q.due("told as 0", of("ill 0;man a tall 99 wide 99;coat a tall 0 wide 0 worn 99;").misfit(0, 0), 0);
    }

    private static int ill(String formula, String man, String coat) {
        return of("ill " + formula + ";man a " + man + ";coat a " + coat + ";").misfit(0, 0);
    }

    private void facts() {
        q.says(TERMS, "by tight (how much wider he is), loose (how much wider the COAT is), short (how much taller he is),"
                + " long (how much taller the COAT is; 0 each, if it is not so), worn, day (0 at first;");
        String[] names = {"tight", "loose", "short", "long", "worn", "day"};
        int[][] due = {{4, 0, 3, 0, 9, 0}, {0, 4, 0, 3, 9, 0}, {0, 0, 0, 0, 9, 0}};
        String[] coats = {"tall 37 wide 46 worn 9", "tall 43 wide 54 worn 9", "tall 40 wide 50 worn 9"};
        for (int c = 0; c < coats.length; c++) {
            for (int n = 0; n < names.length; n++) {
                q.due(names[n] + " in " + coats[c], ill(names[n], "tall 40 wide 50", coats[c]), due[c][n]);
            }
        }
        TailorRegiment x = of("ill day;" + MAN + COAT);
        for (int day = 0; day < 3; day++) {
            q.due("day " + day, x.misfit(0, 0), day);
            x.day();
        }
        x.undo();
        q.due("a day taken back", x.misfit(0, 0), 2);
    }

    private void ints() {
        q.says(TERMS, "ints, wrapping; / cut, % its rest, both by 0: 0; relations, and, or, not are 1 or 0,"
                + " of what is not 0)");
        String[] formulas = {"8192*8192*32=0-8192*8192*32", "8192*8192*32-1>0", "8192*8192*64", "7/2", "(0-7)/2+9",
            "7%3", "(0-7)%3+9", "7%(0-3)", "7/0", "7%0", "0/0", "5+(3-3)/(3-3)", "8192*8192*32/(0-1)<0",
            "8192*8192*32%(0-1)", "2<3", "3<3", "3>2", "3>3", "3=3", "3=4", "7 and 8", "(0-7) and 8", "0 and 8", "8 and 0",
            "0 or 0", "0 or (0-5)", "6 or 0", "not 0", "not 9", "not (0-9)", "5+7/0", "5+7%0", "5+(3<3)", "5+(3>3)",
            "5+(3=4)", "5+(0 and 8)", "5+(0 or 0)", "5+(not 9)"};
        int[] due = {1, 1, 0, 3, 6, 1, 8, 1, 0, 0, 0, 5, 1, 0, 1, 0, 1, 0, 1, 0, 1, 1, 0, 0, 0, 1, 1, 1, 0, 0,
            5, 5, 5, 5, 5, 5, 5, 5};
        for (int i = 0; i < formulas.length; i++) {
            q.due(formulas[i], ill(formulas[i], "tall 1 wide 1", "tall 1 wide 1"), due[i]);
        }
    }

    private void leastAndMost() {
        q.says(TERMS, "0 at least, 999 at most.");
        q.due("0", ill("0", "tall 1 wide 1", "tall 1 wide 1"), 0);
        q.due("below 0", ill("0-1", "tall 1 wide 1", "tall 1 wide 1"), 0);
        q.due("999", ill("999", "tall 1 wide 1", "tall 1 wide 1"), 999);
        q.due("above 999", ill("1000", "tall 1 wide 1", "tall 1 wide 1"), 999);
        q.due("far below", ill("8192*8192*32", "tall 1 wide 1", "tall 1 wide 1"), 0);
        q.due("far above", ill("8192*8192*32-1", "tall 1 wide 1", "tall 1 wide 1"), 999);
    }

    private void fits() {
        q.says(TERMS, "It FITS him, if that is no more than easy tells.");
        for (int ill : new int[] {0, 10, 11, 999}) {
            q.due("by 10, if not told: " + ill, of("ill " + ill + ";" + MAN + COAT).man(0, 4), ill <= 10 ? 1 : 0);
        }
        q.due("0 by 0", of("ill 0;easy 0;" + MAN + COAT).man(0, 4), 1);
        q.due("1 by 0", of("ill 1;easy 0;" + MAN + COAT).man(0, 4), 0);
        q.due("998 by 998", of("ill 998;easy 998;" + MAN + COAT).man(0, 4), 1);
        q.due("999 by 998", of("ill 999;easy 998;" + MAN + COAT).man(0, 4), 0);
        q.due("all by 999", of("ill 9999;easy 999;" + MAN + COAT).man(0, 4), 1);
    }

    private void grows() {
        q.says(TERMS, "A DAY: each MAN is wider by what he grows (99 at most)");
        TailorRegiment x = of("man a tall 5 wide 89 grows 9;man b tall 5 wide 91 grows 9;man c tall 5 wide 99 grows 1;"
                + "man d tall 5 wide 98;man e tall 5 wide 0 grows 1;");
        int[][] due = {{98, 99}, {99, 99}, {99, 99}, {98, 98}, {1, 2}};
        for (int day = 0; day < 2; day++) {
            x.day();
            for (int man = 0; man < due.length; man++) {
                q.due("day " + (day + 1) + ": man(" + man + ", 1)", x.man(man, 1), due[man][day]);
            }
        }
    }

    private void wears() {
        q.says(TERMS, "each COAT that somebody WEARS is 1 more WORN (99 at most)");
        TailorRegiment x = of("easy 999;man a tall 5 wide 5;man b tall 5 wide 5;man c tall 5 wide 5;coat a tall 5 wide 5;"
                + "coat b tall 5 wide 5 worn 98;coat c tall 5 wide 5 worn 99;coat d tall 5 wide 5 worn 7;");
        for (int i = 0; i < 3; i++) {
            x.don(i, i);
        }
        x.day();
        int[] due = {1, 99, 99, 7};
        for (int coat = 0; coat < due.length; coat++) {
            q.due("coat(" + coat + ", 3)", x.coat(coat, 3), due[coat]);
        }
        x.day();
        q.due("99 at most", x.coat(1, 3), 99);
        x.doff(0);
        x.day();
        q.due("nobody wears it now", x.coat(0, 3), 2);
    }

    private void seed() {
        q.says(TERMS, "then the SEED (draw, at first) becomes its 137-fold and 71 more, modulo 1,000");
        int[][] due = {{0, 71, 798, 397}, {999, 934, 29, 44}, {137, 840, 151, 758}};
        for (int[] d : due) {
            TailorRegiment x = of("draw " + d[0] + ";");
            for (int i = 0; i < d.length; i++) {
                q.due("draw " + d[0] + ", day " + i, x.about(6), d[i]);
                x.day();
            }
        }
    }

    /** The coat's tall behind one day on which the seed's rest by 100 is told by draw. */
    private static int tallBehind(int rain, int draw, String coat) {
        TailorRegiment x = of("easy 999;" + MAN + coat + "rain " + rain + ";draw " + draw + ";");
        x.don(0, 0);
        x.day();
        return x.coat(0, 0);
    }

    private void rains() {
        q.says(TERMS, "if its rest by 100 is less than rain tells, it RAINS:"
                + " each COAT that somebody WEARS is 1 less WIDE, 1 less TALL (0 at least both)");
        // the seeds 17, 44 and 0 become 400, 99 and 71: rests 0, 99, 71
        int[][] due = {{0, 17, 5}, {1, 17, 4}, {99, 44, 5}, {100, 44, 4}, {71, 0, 5}, {72, 0, 4}, {100, 0, 4}, {0, 0, 5}};
        for (int[] d : due) {
            q.due("rain " + d[0] + ", draw " + d[1], tallBehind(d[0], d[1], COAT), d[2]);
        }
        TailorRegiment x = of("easy 999;rain 100;man a tall 5 wide 5;man b tall 5 wide 5;man c tall 5 wide 5;"
                + "coat a tall 1 wide 2;coat b tall 2 wide 1;coat c tall 0 wide 0;coat d tall 9 wide 9;");
        for (int i = 0; i < 3; i++) {
            x.don(i, i);
        }
        int[][] talls = {{0, 0}, {1, 0}, {0, 0}, {9, 9}};
        int[][] wides = {{1, 0}, {0, 0}, {0, 0}, {9, 9}};
        for (int day = 0; day < 2; day++) {
            x.day();
            for (int coat = 0; coat < 4; coat++) {
                q.due("day " + day + ": coat(" + coat + ", 0)", x.coat(coat, 0), talls[coat][day]);
                q.due("day " + day + ": coat(" + coat + ", 1)", x.coat(coat, 1), wides[coat][day]);
            }
        }
        q.due("seam stays", x.coat(0, 2), 0);
    }

    /** Who takes his off on the first day by this formula, easy 0; his wide and the coat's are 5. */
    private static int shed(String formula, String more) {
        TailorRegiment x = of("easy 0;ill " + formula + ";man a tall 5 wide 5 grows 1;" + COAT + more);
        x.don(0, 0);
        return x.day();
    }

    private void takesOff() {
        q.says(TERMS, "the day goes up by 1; then each who WEARS a COAT that does not FIT him takes it off.");
        q.due("by the day", shed("day", ""), 1);
        q.due("not by the day before", shed("day=0", ""), 0);
        q.due("by what he has grown", shed("tight=1", ""), 1);
        q.due("by how worn it is", shed("worn=1", ""), 1);
        q.due("by the rain", shed("tight=2 and short=1", "rain 100;"), 1);
        q.due("it fits him", shed("0", ""), 0);
        TailorRegiment x = of("easy 0;ill day;rain 100;man a tall 5 wide 5;man b tall 5 wide 5;man c tall 5 wide 5;"
                + "coat a tall 5 wide 5;coat b tall 5 wide 5;");
        x.don(0, 1);
        x.don(2, 0);
        q.due("each", x.day(), 5);
        q.due("the first has none", x.man(0, 3), -1);
        q.due("the third has none", x.man(2, 3), -1);
        q.due("it was worn that day", x.coat(1, 3), 1);
        q.due("it was rained on that day", x.coat(1, 1), 4);
        q.due("the day", x.about(5), 1);
        x.day();
        q.due("no more", x.coat(1, 3), 1);
    }

    private void puttingOn() {
        q.says(TERMS, "ACTS: a DAY; a MAN puts on a COAT that nobody WEARS (that FITS him or not; his own he takes off);"
                + " he takes his off;");
        TailorRegiment x = of("easy 0;ill loose;" + MAN + COAT + "coat b tall 5 wide 9;");
        x.don(0, 1);
        q.due("it does not fit him", x.man(0, 4), 1);
        q.due("he wears it", x.man(0, 3), 1);
        x.don(0, 0);
        q.due("he wears the other", x.man(0, 3), 0);
        q.due("his own he took off", x.coat(1, 5), -1);
        x.doff(0);
        q.due("he took it off", x.man(0, 3), -1);
        x.day();
        q.due("four acts", x.about(7), 4);
    }

    private void tailoring() {
        q.says(TERMS, "a COAT is let out (by some of its SEAM: so much WIDER, so much less SEAM), taken in (so much less"
                + " WIDE, so much more SEAM), hemmed (so much less TALL), TURNED (once; WORN 0 then).");
        TailorRegiment x = of("coat a tall 50 wide 40 seam 9 worn 8;");
        int[][] due = {{50, 43, 6, 8, 0}, {50, 38, 11, 8, 0}, {46, 38, 11, 8, 0}, {46, 38, 11, 0, 1}, {46, 38, 11, 0, 1}};
        for (int act = 0; act < due.length; act++) {
            switch (act) {
                case 0 -> x.letout(0, 3);
                case 1 -> x.takein(0, 5);
                case 2 -> x.hem(0, 4);
                default -> x.turn(0);
            }
            for (int what = 0; what < 5; what++) {
                q.due("act " + act + ": coat(0, " + what + ")", x.coat(0, what), due[act][what]);
            }
        }
        q.due("turned once", x.about(7), 4);
    }

    private void undoAndRedo() {
        q.says(TERMS, "UNDO takes back the latest ACT that was not, REDO does that again which was taken back last"
                + " (till another ACT)");
        TailorRegiment x = of("coat a tall 50 wide 40;");
        x.hem(0, 1);
        x.hem(0, 2);
        x.hem(0, 4);
        int[] back = {47, 49, 50};
        for (int tall : back) {
            q.due("undo()", x.undo(), true);
            q.due("tall", x.coat(0, 0), tall);
        }
        q.due("all are taken back", x.undo(), false);
        int[] on = {49, 47, 43};
        for (int tall : on) {
            q.due("redo()", x.redo(), true);
            q.due("tall", x.coat(0, 0), tall);
        }
        q.due("all are done again", x.redo(), false);
        x.undo();
        x.undo();
        x.hem(0, 8);
        q.due("another act: redo()", x.redo(), false);
        q.due("tall", x.coat(0, 0), 41);
        q.due("the latest that was not", x.undo(), true);
        q.due("tall", x.coat(0, 0), 49);
        q.due("that which was taken back last", x.redo(), true);
        q.due("tall", x.coat(0, 0), 41);
        x.undo();
        x.hem(0, 50);
        q.due("what can't be is no act", x.redo(), true);
    }

    private void forty() {
        q.says(TERMS, "40 at most are kept, the oldest go.");
        for (int acts : new int[] {39, 40, 41, 90}) {
            TailorRegiment x = of("coat a tall 99 wide 1;");
            for (int i = 0; i < acts; i++) {
                x.hem(0, 1);
            }
            int kept = Math.min(40, acts);
            q.due(acts + ": about(7)", x.about(7), kept);
            for (int i = 0; i < kept; i++) {
                q.due(acts + ": undo() " + i, x.undo(), true);
            }
            q.due(acts + ": no more", x.undo(), false);
            q.due(acts + ": tall", x.coat(0, 0), 99 - acts + kept);
            q.due(acts + ": about(8)", x.about(8), kept);
            for (int i = 0; i < kept; i++) {
                q.due(acts + ": redo() " + i, x.redo(), true);
            }
            q.due(acts + ": no more", x.redo(), false);
            q.due(acts + ": tall", x.coat(0, 0), 99 - acts);
        }
    }

    private static TailorRegiment two() {
        return of("man a tall 50 wide 40 grows 3;man b tall 51 wide 41;coat a tall 50 wide 39 seam 2 worn 1;"
                + "coat b tall 52 wide 60;coat c tall 51 wide 42 worn 5;");
    }

    private void man() {
        q.says(6, "Of a MAN what 0: tall, 1: WIDE, 2: grows, 3: the COAT he WEARS (-1: none), 4: COATS that FIT him, as bits;");
        TailorRegiment x = two();
        x.don(1, 2);
        // a: 3 + 1 = 4, 20 + 2, 2 + 1 + 5 = 8; b: 6 + 2 + 1 = 9, 19 + 1, 1 + 5 = 6
        int[][] due = {{50, 40, 3, -1, 5}, {51, 41, 0, 2, 5}};
        for (int man = 0; man < 2; man++) {
            for (int what = 0; what < 5; what++) {
                q.due("man(" + man + ", " + what + ")", x.man(man, what), due[man][what]);
            }
        }
        q.due("none fits: 0", of("easy 0;ill 1;" + MAN + COAT).man(0, 4), 0);
        q.due("no coats: 0", of(MAN).man(0, 4), 0);
        q.says(6, "-2 if there is none such, or for another what.");
        for (int man : new int[] {-1, 2, 5, 6, MIN, MAX}) {
            for (int what = 0; what < 5; what++) {
                q.due("man(" + man + ", " + what + ")", x.man(man, what), -2);
            }
        }
        for (int what : new int[] {-1, 5, 6, MIN, MAX}) {
            q.due("man(0, " + what + ")", x.man(0, what), -2);
        }
        q.due("in an empty one", new TailorRegiment().man(0, 3), -2);
    }

    private void coat() {
        q.says(7, "Of a COAT what 0: TALL, 1: WIDE, 2: SEAM, 3: WORN, 4: 1 if TURNED, else 0, 5: who WEARS it (-1: nobody);");
        TailorRegiment x = two();
        x.don(1, 0);
        x.turn(2);
        int[][] due = {{50, 39, 2, 1, 0, 1}, {52, 60, 0, 0, 0, -1}, {51, 42, 0, 0, 1, -1}};
        for (int coat = 0; coat < 3; coat++) {
            for (int what = 0; what < 6; what++) {
                q.due("coat(" + coat + ", " + what + ")", x.coat(coat, what), due[coat][what]);
            }
        }
        q.says(7, "-2 if there is none such, or for another what.");
        for (int coat : new int[] {-1, 3, 5, 6, MIN, MAX}) {
            for (int what = 0; what < 6; what++) {
                q.due("coat(" + coat + ", " + what + ")", x.coat(coat, what), -2);
            }
        }
        for (int what : new int[] {-1, 6, 7, MIN, MAX}) {
            q.due("coat(0, " + what + ")", x.coat(0, what), -2);
        }
        q.due("in an empty one", new TailorRegiment().coat(0, 5), -2);
    }

    private void misfit() {
        q.says(8, "By how much a COAT SITS ILL on a MAN;");
        TailorRegiment x = two();
        int[][] due = {{4, 22, 8}, {9, 20, 6}};
        for (int man = 0; man < 2; man++) {
            for (int coat = 0; coat < 3; coat++) {
                q.due("misfit(" + man + ", " + coat + ")", x.misfit(man, coat), due[man][coat]);
            }
        }
        q.says(8, "NONE if there is none such.");
        for (int far : new int[] {-1, 3, 5, 6, MIN, MAX}) {
            q.due("misfit(" + far + ", 0)", x.misfit(far, 0), -1);
            q.due("misfit(0, " + far + ")", x.misfit(0, far), -1);
            q.due("misfit(" + far + ", " + far + ")", x.misfit(far, far), -1);
        }
        q.due("two men, no third", x.misfit(2, 2), -1);
        q.due("without coats", of(MAN).misfit(0, 0), -1);
        q.due("without men", of(COAT).misfit(0, 0), -1);
    }

    private void day() {
        q.says(9, "A DAY: who took his off, as bits;");
        TailorRegiment x = of("easy 2;ill worn;man a tall 5 wide 5;man b tall 5 wide 5;man c tall 5 wide 5;"
                + "coat a tall 5 wide 5 worn 2;coat b tall 5 wide 5 worn 1;coat c tall 5 wide 5 worn 2;");
        q.due("nobody wears any", x.day(), 0);
        for (int i = 0; i < 3; i++) {
            x.don(i, i);
        }
        q.due("the first and the third", x.day(), 5);
        q.due("the second", x.day(), 2);
        q.due("nobody", x.day(), 0);
        q.due("in an empty one", new TailorRegiment().day(), 0);
        q.says(9, "NONE, doing nothing, behind 999 of them. (An ACT.)");
        // more calls than the 512 that the document speaks of: there is no other way behind 999 days
        TailorRegiment late = of("draw 5;man a tall 5 wide 0 grows 1;");
        for (int i = 0; i < 998; i++) {
            late.day();
        }
        q.due("the 999th", late.day(), 0);
        int seed = late.about(6);
        q.due("an act", late.undo(), true);
        q.due("taken back", late.about(5), 998);
        q.due("none behind 999", late.redo() ? late.day() : 5, -1);
        q.due("doing nothing: the day", late.about(5), 999);
        q.due("doing nothing: the seed", late.about(6), seed);
        q.due("doing nothing: acts", late.about(7), 40);
    }

    private void don() {
        q.says(10, "He puts on a COAT: which he wore (-1: none);");
        TailorRegiment x = two();
        q.due("none", x.don(0, 1), -1);
        q.due("the second", x.don(0, 0), 1);
        q.due("the first", x.don(0, 2), 0);
        q.due("none", x.don(1, 0), -1);
        q.says(10, "-2, doing nothing, if somebody WEARS it (he, too), or one can't be. (An ACT.)");
        q.due("another one", x.don(1, 2), -2);
        q.due("he himself", x.don(0, 2), -2);
        for (int far : new int[] {-1, 3, 5, 6, MIN, MAX}) {
            q.due("don(" + far + ", 1)", x.don(far, 1), -2);
            q.due("don(0, " + far + ")", x.don(0, far), -2);
        }
        q.due("two men", x.don(2, 1), -2);
        q.due("doing nothing: acts", x.about(7), 4);
        q.due("doing nothing", x.man(0, 3), 2);
        q.due("doing nothing", x.man(1, 3), 0);
        x.undo();
        q.due("an act", x.man(1, 3), -1);
        x.undo();
        q.due("an act", x.man(0, 3), 0);
        q.due("without coats", of(MAN).don(0, 0), -2);
        q.due("without men", of(COAT).don(0, 0), -2);
    }

    private void doff() {
        q.says(11, "He takes his off: which;");
        TailorRegiment x = two();
        x.don(0, 0);
        x.don(1, 2);
        q.due("the third", x.doff(1), 2);
        q.due("the first", x.doff(0), 0);
        q.says(11, "NONE, doing nothing, if he WEARS none, or there is none such. (An ACT.)");
        q.due("he wears none", x.doff(0), -1);
        for (int far : new int[] {-1, 2, 5, 6, MIN, MAX}) {
            q.due("doff(" + far + ")", x.doff(far), -1);
        }
        q.due("doing nothing", x.about(7), 4);
        x.undo();
        q.due("an act", x.man(0, 3), 0);
        q.due("in an empty one", new TailorRegiment().doff(0), -1);
    }

    private void letout() {
        q.says(12, "A COAT is let out (1 .. its SEAM): WIDE then;");
        TailorRegiment x = of("coat a tall 5 wide 40 seam 20;coat b tall 5 wide 97 seam 3;coat c tall 5 wide 5;");
        q.due("1", x.letout(0, 1), 41);
        q.due("all its seam", x.letout(0, 19), 60);
        q.due("seam", x.coat(0, 2), 0);
        q.due("99", x.letout(1, 2), 99);
        q.says(12, "NONE, doing nothing, if that would be above 99, or one can't be. (An ACT.)");
        q.due("100", x.letout(1, 1), -1);
        q.due("no seam is left", x.letout(0, 1), -1);
        q.due("no seam was told", x.letout(2, 1), -1);
        for (int inches : new int[] {0, -1, 2, 100, MIN, MAX}) {
            q.due("letout(1, " + inches + ")", x.letout(1, inches), -1);
        }
        for (int coat : new int[] {-1, 3, 6, MIN, MAX}) {
            q.due("letout(" + coat + ", 1)", x.letout(coat, 1), -1);
            q.due("letout(" + coat + ", 0)", x.letout(coat, 0), -1);
        }
        q.due("doing nothing: acts", x.about(7), 3);
        q.due("doing nothing: wide", x.coat(1, 1), 99);
        q.due("doing nothing: seam", x.coat(1, 2), 1);
        x.undo();
        q.due("an act: wide", x.coat(1, 1), 97);
        q.due("an act: seam", x.coat(1, 2), 3);
    }

    private void takein() {
        q.says(13, "It is taken in (1 .. its WIDE): WIDE then;");
        TailorRegiment x = of("coat a tall 5 wide 40 seam 20;coat b tall 5 wide 99 seam 20;coat c tall 5 wide 0;");
        q.due("1", x.takein(0, 1), 39);
        q.due("all its wide", x.takein(0, 39), 0);
        q.due("seam", x.coat(0, 2), 60);
        q.due("seam 99", x.takein(1, 79), 20);
        q.due("seam", x.coat(1, 2), 99);
        q.says(13, "NONE, doing nothing, if SEAM would be above 99, or one can't be. (An ACT.)");
        q.due("seam 100", x.takein(1, 1), -1);
        q.due("no wide is left", x.takein(0, 1), -1);
        q.due("no wide was told", x.takein(2, 1), -1);
        for (int inches : new int[] {0, -1, 2, 21, 100, MIN, MAX}) {
            q.due("takein(1, " + inches + ")", x.takein(1, inches), -1);
        }
        for (int coat : new int[] {-1, 3, 6, MIN, MAX}) {
            q.due("takein(" + coat + ", 1)", x.takein(coat, 1), -1);
            q.due("takein(" + coat + ", 0)", x.takein(coat, 0), -1);
        }
        q.due("doing nothing: acts", x.about(7), 3);
        q.due("doing nothing: wide", x.coat(1, 1), 20);
        x.undo();
        q.due("an act: wide", x.coat(1, 1), 99);
        q.due("an act: seam", x.coat(1, 2), 20);
        q.due("80 would make seam 100", x.takein(1, 80), -1);
    }

    private void hem() {
        q.says(14, "It is hemmed (1 .. its TALL): TALL then;");
        TailorRegiment x = of("coat a tall 99 wide 5;coat b tall 0 wide 5;coat c tall 9 wide 5;");
        q.due("1", x.hem(0, 1), 98);
        q.due("all its tall", x.hem(0, 98), 0);
        q.due("all at once", x.hem(2, 9), 0);
        q.says(14, "NONE, doing nothing, if one can't be. (An ACT.)");
        q.due("none is left", x.hem(0, 1), -1);
        q.due("none was told", x.hem(1, 1), -1);
        x.undo();
        q.due("an act", x.coat(2, 0), 9);
        for (int inches : new int[] {0, -1, 10, 100, MIN, MAX}) {
            q.due("hem(2, " + inches + ")", x.hem(2, inches), -1);
        }
        for (int coat : new int[] {-1, 3, 6, MIN, MAX}) {
            q.due("hem(" + coat + ", 1)", x.hem(coat, 1), -1);
            q.due("hem(" + coat + ", 0)", x.hem(coat, 0), -1);
        }
        q.due("doing nothing: acts", x.about(7), 2);
        q.due("doing nothing: tall", x.coat(2, 0), 9);
    }

    private void turn() {
        q.says(15, "It is TURNED: how WORN it was;");
        TailorRegiment x = of("coat a tall 9 wide 5 worn 99;coat b tall 0 wide 5;");
        q.due("99", x.turn(0), 99);
        q.due("0", x.turn(1), 0);
        q.due("worn", x.coat(0, 3), 0);
        q.due("turned", x.coat(0, 4), 1);
        q.says(15, "NONE, doing nothing, if it is TURNED already, or there is none such. (An ACT.)");
        q.due("again", x.turn(0), -1);
        q.due("again", x.turn(1), -1);
        for (int coat : new int[] {-1, 2, 6, MIN, MAX}) {
            q.due("turn(" + coat + ")", x.turn(coat), -1);
        }
        q.due("doing nothing", x.about(7), 2);
        x.undo();
        q.due("an act", x.coat(1, 4), 0);
        q.due("the other one's stays", x.coat(0, 4), 1);
        q.due("so it can be again", x.turn(1), 0);
    }

    private void undo() {
        q.says(16, "UNDO: true; false if there is none.");
        TailorRegiment x = of(COAT);
        q.due("none", x.undo(), false);
        x.hem(0, 9);
        q.due("what did nothing is none", x.undo(), false);
        x.hem(0, 1);
        q.due("one", x.undo(), true);
        q.due("no other", x.undo(), false);
        q.due("in an empty one", new TailorRegiment().undo(), false);
    }

    private void redo() {
        q.says(17, "REDO: true; false if there is none.");
        TailorRegiment x = of(COAT);
        q.due("none", x.redo(), false);
        x.hem(0, 1);
        q.due("none was taken back", x.redo(), false);
        x.undo();
        q.due("one", x.redo(), true);
        q.due("no other", x.redo(), false);
        q.due("in an empty one", new TailorRegiment().redo(), false);
    }
}
