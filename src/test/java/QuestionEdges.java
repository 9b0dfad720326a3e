/** The third terms (DRESS to ODDS) and promises 18 to 39, sentence by sentence. */
final class QuestionEdges {
    private static final int TERMS = Quotes.TERMS;
    private static final int MIN = Integer.MIN_VALUE;
    private static final int MAX = Integer.MAX_VALUE;
    private static final String MAN = "man a tall 5 wide 5;";
    private static final String COAT = "coat a tall 5 wide 5;";
    private static final String SAME = "ill tight+loose;easy 0;";

    private final Quotes q;

    QuestionEdges(Quotes q) {
        this.q = q;
    }

    void run() {
        nothingIsDone();
        beyondTheLastDay();
        dressNoTwo();
        dressMostAndLeast();
        dressOfLikeOnes();
        sewingAside();
        sewingHemmed();
        sewingOfLikeOnes();
        rotaByK();
        rotaOfLikeOnes();
        changeIfMore();
        changeOfLikeOnes();
        termOut();
        termFront();
        termWings();
        termCloth();
        termButtons();
        termReach();
        termOdds();
        will();
        out();
        fitted();
        dress();
        sewing();
        rota();
        change();
        front();
        wings();
        cloth();
        buttons();
        reach();
        turning();
        ragsNakedPopular();
        lawAndEase();
        breadth();
        rout();
        odds();
        lies();
    }

    private static TailorRegiment of(String text) {
        return Check.regiment(text);
    }

    /** Men and coats of these widths, all tall 5; nobody wears any. */
    private static TailorRegiment wides(String more, int[] men, int... coats) {
        StringBuilder b = new StringBuilder(more);
        for (int i = 0; i < men.length; i++) {
            b.append("man ").append((char) ('a' + i)).append(" tall 5 wide ").append(men[i]).append(';');
        }
        for (int i = 0; i < coats.length; i++) {
            b.append("coat ").append((char) ('a' + i)).append(" tall 5 wide ").append(coats[i]).append(';');
        }
        return of(b.toString());
    }

    /** As many men as coats of these widths, each in the coat of his number. */
    private static TailorRegiment worn(int... coats) {
        TailorRegiment x = wides("easy 999;", new int[coats.length], coats);
        return putOn(x, coats.length);
    }

    private static TailorRegiment putOn(TailorRegiment x, int n) {
        for (int i = 0; i < n; i++) {
            x.don(i, i);
        }
        return x;
    }

    private static int[] state(TailorRegiment x) {
        int[] row = new int[6 * 8 + 9];
        int at = 0;
        for (int i = 0; i < 6; i++) {
            row[at++] = x.man(i, 1);
            row[at++] = x.man(i, 3);
            for (int what = 0; what < 6; what++) {
                row[at++] = x.coat(i, what);
            }
        }
        for (int what = 2; what <= 10; what++) {
            row[at++] = x.about(what);
        }
        return row;
    }

    private void nothingIsDone() {
        q.says(TERMS, "(By what is now; nothing is done; no rain, if not told otherwise.");
        TailorRegiment x = of("ill tight;easy 1;rain 100;draw 3;man a tall 5 wide 5;man b tall 5 wide 4;" + COAT
                + "coat b tall 5 wide 6;coat c tall 9 wide 9;");
        x.don(0, 0);
        x.don(1, 1);
        x.hem(0, 1);
        x.undo();
        int[] before = state(x);
        q.due("no rain: will", x.will(0, 60, 0), 0);
        q.due("rain, as told: will", x.will(0, 2, 1), -1);
        q.due("no rain: out", x.out(0), -1);
        q.due("no rain: rout", x.rout(), -1);
        askAll(x);
        int[] then = state(x);
        for (int i = 0; i < before.length; i++) {
            q.due("nothing is done: " + i, then[i], before[i]);
        }
        q.due("what was undone is kept", x.redo(), true);
        q.due("by what is now", x.sewing(0, 0, 0), 0);
        x.takein(0, 2);
        q.due("by what is now", x.sewing(0, 0, 0), 1);
    }

    private static void askAll(TailorRegiment x) {
        x.fitted();
        x.dress(0);
        x.sewing(0, 0, 0);
        x.rota(0);
        x.change(0);
        x.front(3, 1);
        x.wings(1);
        x.cloth();
        x.buttons();
        x.reach(0, 1);
        x.turning();
        x.rags();
        x.naked();
        x.popular(0);
        x.law(4);
        x.ease();
        x.breadth();
        x.odds(3, 0);
        x.growths(0);
        x.sure(0, 0);
        x.ask(0, 0);
    }

    private void beyondTheLastDay() {
        q.says(TERMS, "What lies ahead goes on beyond day 999, too.)");
        // more calls than the 512 that the document speaks of: there is no other way to day 999
        TailorRegiment x = of("ill (day>1058)*9;easy 5;" + MAN + COAT);
        for (int i = 0; i < 999; i++) {
            x.day();
        }
        x.don(0, 0);
        q.due("day()", x.day(), -1);
        q.due("out(0)", x.out(0), 60);
        q.due("rout()", x.rout(), 60);
        q.due("will(0, 59, 0)", x.will(0, 59, 0), 0);
        q.due("will(0, 60, 0)", x.will(0, 60, 0), -1);
        q.due("will(0, 60, 1)", x.will(0, 60, 1), -1);
    }

    private void dressNoTwo() {
        q.says(TERMS, "DRESS: MEN to COATS, each to one at most, no two to one, whoever WEARS what now:");
        TailorRegiment x = wides("", new int[] {5, 5, 5}, 5, 5);
        q.due("two for three", x.dress(0), 2);
        q.lies("no two to one", x, 0, 1, -1);
        TailorRegiment y = wides("", new int[] {5, 5}, 5, 5, 5);
        y.don(0, 1);
        y.don(1, 0);
        q.due("three for two", y.dress(0), 2);
        q.lies("whoever wears what now", y, 0, 1);
    }

    private void dressMostAndLeast() {
        q.says(TERMS, "as many as can be whom theirs FITS (others get none)");
        // b fits a alone, a fits both and best in a
        TailorRegiment x = wides("ill tight*99+loose;easy 9;", new int[] {10, 9}, 10, 19);
        q.due("both", x.dress(0), 2);
        q.lies("both", x, 1, 0);
        TailorRegiment y = wides("ill tight*99+loose;easy 9;", new int[] {10, 99, 9}, 10, 19);
        q.due("the second gets none", y.dress(0), 2);
        q.lies("the second gets none", y, 1, -1, 0);
        TailorRegiment none = wides("ill 1;easy 0;", new int[] {5, 5}, 5, 5);
        q.due("nobody", none.dress(0), 0);
        q.lies("nobody", none, -1, -1);
        q.says(TERMS, "then they SIT ILL least together;");
        // 0 and 25 or 9 and 4: the second dressing
        TailorRegiment least = wides("ill (tight+loose)*(tight+loose);easy 30;", new int[] {10, 12}, 10, 7);
        q.due("together", least.dress(1), 13);
        q.lies("together", least, 1, 0);
        // one of two gets the only coat: whom it fits better
        TailorRegiment one = wides("ill tight+loose;", new int[] {10, 12, 11}, 12);
        q.due("the better", one.dress(1), 0);
        q.lies("the better", one, -1, 0, -1);
    }

    private void dressOfLikeOnes() {
        q.says(TERMS, "of like ones the first (MAN by MAN: the least COAT, none behind all).");
        TailorRegiment x = wides("ill 7;", new int[] {5, 5, 5}, 5, 5, 5);
        q.due("together", x.dress(1), 21);
        q.lies("the least coats", x, 0, 1, 2);
        TailorRegiment y = wides("ill 7;", new int[] {5, 5, 5}, 5);
        q.due("one", y.dress(0), 1);
        q.lies("none behind all", y, 0, -1, -1);
        // a in a, b in b is 3 + 1, a in b, b in a is 2 + 2
        TailorRegiment z = wides("ill tight+loose;", new int[] {10, 11}, 13, 12);
        q.due("together", z.dress(1), 4);
        q.lies("like ones", z, 0, 1);
    }

    private void sewn(String of, TailorRegiment x, int inches, int hemmed, int in) {
        q.due(of + ": sewing(0, 0, 0)", x.sewing(0, 0, 0), inches);
        q.due(of + ": sewing(0, 0, 1)", x.sewing(0, 0, 1), hemmed);
        q.due(of + ": sewing(0, 0, 2)", x.sewing(0, 0, 2), in);
    }

    private static TailorRegiment pair(String more, String man, String coat) {
        return of(more + "man a " + man + ";coat a " + coat + ";");
    }

    private void sewingAside() {
        q.says(TERMS, "SEWING of a COAT for a MAN: the least inches by which it FITS him, taken in or let out (20 at most;"
                + " let out as far as there is SEAM, WIDE 99 at most; taken in till WIDE 0, whatever SEAM that makes)");
        sewn("it fits", pair(SAME, "tall 5 wide 50", "tall 5 wide 50 seam 20"), 0, 0, 0);
        sewn("taken in 20", pair(SAME, "tall 5 wide 50", "tall 5 wide 70"), 20, 0, 20);
        sewn("taken in 21", pair(SAME, "tall 5 wide 50", "tall 5 wide 71"), -100, -100, -100);
        sewn("let out 20", pair(SAME, "tall 5 wide 70", "tall 5 wide 50 seam 20"), 20, 0, -20);
        sewn("no seam for 20", pair(SAME, "tall 5 wide 70", "tall 5 wide 50 seam 19"), -100, -100, -100);
        sewn("all its seam", pair(SAME, "tall 5 wide 57", "tall 5 wide 50 seam 7"), 7, 0, -7);
        sewn("more than its seam", pair(SAME, "tall 5 wide 57", "tall 5 wide 50 seam 6"), -100, -100, -100);
        TailorRegiment seam = pair(SAME, "tall 5 wide 71", "tall 5 wide 71");
        seam.takein(0, 21);
        sewn("let out 21 of 21", seam, -100, -100, -100);
        seam.letout(0, 1);
        sewn("let out 20 of 20", seam, 20, 0, -20);
        sewn("wide 99", pair(SAME, "tall 5 wide 99", "tall 5 wide 90 seam 20"), 9, 0, -9);
        sewn("wide 100", pair("ill loose<10;easy 0;", "tall 5 wide 90", "tall 5 wide 95 seam 20"), -100, -100, -100);
        sewn("wide 99, no more", pair("ill loose<9;easy 0;", "tall 5 wide 90", "tall 5 wide 95 seam 20"), 4, 0, -4);
        sewn("till wide 0", pair(SAME, "tall 5 wide 0", "tall 5 wide 9"), 9, 0, 9);
        sewn("not below 0", pair("ill tight<10;easy 0;", "tall 5 wide 9", "tall 5 wide 5"), -100, -100, -100);
        TailorRegiment much = pair(SAME, "tall 5 wide 0", "tall 5 wide 99 seam 20");
        much.takein(0, 79);
        sewn("seam would be 119", much, 20, 0, 20);
    }

    private void sewingHemmed() {
        q.says(TERMS, "and hemmed (20 at most, till TALL 0), together;");
        String both = "ill tight+loose+short+long;easy 0;";
        sewn("20", pair(both, "tall 30 wide 5", "tall 50 wide 5"), 20, 20, 0);
        sewn("21", pair(both, "tall 30 wide 5", "tall 51 wide 5"), -100, -100, -100);
        sewn("till tall 0", pair(both, "tall 0 wide 5", "tall 9 wide 5"), 9, 9, 0);
        sewn("not below 0", pair("ill short<10;easy 0;", "tall 9 wide 5", "tall 5 wide 5"), -100, -100, -100);
        sewn("it grows no longer", pair(both, "tall 9 wide 5", "tall 8 wide 5 seam 20"), -100, -100, -100);
        sewn("20 and 20 in", pair(both, "tall 30 wide 30", "tall 50 wide 50"), 40, 20, 20);
        sewn("20 and 20 out", pair(both, "tall 30 wide 50", "tall 50 wide 30 seam 20"), 40, 20, -20);
        sewn("20 and 21 in", pair(both, "tall 30 wide 30", "tall 50 wide 51"), -100, -100, -100);
    }

    private void sewingOfLikeOnes() {
        q.says(TERMS, "of like ones the least hemmed, then taken in rather than let out.");
        String coat = "tall 50 wide 50 seam 20";
        sewn("in or out or hemmed", pair("ill tight+loose+short<1;easy 0;", "tall 50 wide 50", coat), 1, 0, 1);
        sewn("out or hemmed", pair("ill loose+short<1;easy 0;", "tall 50 wide 50", coat), 1, 0, -1);
        sewn("hemmed alone", pair("ill short<1;easy 0;", "tall 50 wide 50", coat), 1, 1, 0);
        sewn("3 in any way", pair("ill tight+loose+short<3;easy 0;", "tall 50 wide 50", coat), 3, 0, 3);
        sewn("3, out 1 at most", pair("ill loose+short<3;easy 0;", "tall 50 wide 50", "tall 50 wide 50 seam 1"), 3, 2, -1);
        sewn("the least before the least hemmed", pair("ill loose<2 and short<1;easy 0;", "tall 50 wide 50", coat), 1, 1, 0);
    }

    private void rotaByK() {
        q.says(TERMS, "ROTA by k: each MAN gets the COAT that the MAN k places behind him in their order WEARS"
                + " (behind the last one the first);");
        // the man behind him wears his; the last one's is on the first
        TailorRegiment next = putOn(wides(SAME, new int[] {10, 20, 30, 40}, 40, 10, 20, 30), 4);
        q.due("1 behind", next.rota(0), 1);
        q.due("all", next.rota(1), 4);
        TailorRegiment last = putOn(wides(SAME, new int[] {10, 20, 30, 40}, 20, 30, 40, 10), 4);
        q.due("3 behind", last.rota(0), 3);
        q.due("all", last.rota(1), 4);
        TailorRegiment some = wides(SAME, new int[] {10, 20, 30}, 10, 20);
        some.don(1, 0);
        some.don(2, 1);
        q.due("who gets none of him who wears none", some.rota(0), 1);
        q.due("does not fit", some.rota(1), 2);
    }

    private void rotaOfLikeOnes() {
        q.says(TERMS, "the k (0 .. as many as there are MEN less 1) by which most FIT; of like ones the least.");
        TailorRegiment like = putOn(wides("ill 0;", new int[] {5, 5, 5}, 5, 5, 5), 3);
        q.due("0", like.rota(0), 0);
        q.due("all", like.rota(1), 3);
        TailorRegiment one = putOn(wides(SAME, new int[] {10}, 10), 1);
        q.due("one man: k", one.rota(0), 0);
        q.due("one man: fits", one.rota(1), 1);
        TailorRegiment none = wides("", new int[] {5, 5}, 5);
        q.due("nobody wears any: k", none.rota(0), 0);
        q.due("nobody wears any: fit", none.rota(1), 0);
        TailorRegiment two = putOn(wides(SAME, new int[] {10, 20, 30}, 20, 98, 10), 3);
        q.due("by 2 two: k", two.rota(0), 2);
        q.due("by 2 two: fit", two.rota(1), 2);
        // by 1 the first fits in the second one's, by 2 the second in the first one's
        TailorRegiment alike = putOn(wides(SAME, new int[] {10, 20, 30}, 20, 10, 99), 3);
        q.due("by 1 or by 2 one: k", alike.rota(0), 1);
        q.due("by 1 or by 2 one: fits", alike.rota(1), 1);
    }

    private void changed(String of, TailorRegiment x, int one, int other, int fits) {
        q.due(of + ": change(0)", x.change(0), one);
        q.due(of + ": change(1)", x.change(1), other);
        q.due(of + ": change(2)", x.change(2), fits);
    }

    private void changeIfMore() {
        q.says(TERMS, "CHANGE: the two MEN by whose exchange of COATS (one may WEAR none) most FIT theirs,"
                + " if that is more than now;");
        changed("two more", putOn(wides(SAME, new int[] {10, 20, 30}, 10, 30, 20), 3), 1, 2, 3);
        changed("no more", putOn(wides(SAME, new int[] {10, 20}, 10, 20), 2), -1, -1, -1);
        changed("none fits any", putOn(wides(SAME, new int[] {10, 20}, 30, 40), 2), -1, -1, -1);
        TailorRegiment none = wides(SAME, new int[] {10, 20}, 20);
        none.don(0, 0);
        changed("the other wears none", none, 0, 1, 1);
        TailorRegiment first = wides(SAME, new int[] {10, 20}, 10);
        first.don(1, 0);
        changed("the one wears none", first, 0, 1, 1);
        TailorRegiment as = wides("ill 0;", new int[] {10, 20}, 20);
        as.don(0, 0);
        changed("as many as now", as, -1, -1, -1);
        changed("nobody wears any", wides(SAME, new int[] {10, 20}, 20), -1, -1, -1);
        // one more by 0 and 1, two more by 2 and 3
        changed("most, not the first", putOn(wides(SAME, new int[] {10, 20, 30, 40}, 20, 11, 40, 30), 4), 2, 3, 2);
    }

    private void changeOfLikeOnes() {
        q.says(TERMS, "of like ones the first (the lesser number, then the other one).");
        changed("0 and 1, or 2 and 3", putOn(wides(SAME, new int[] {10, 20, 30, 40}, 20, 10, 40, 30), 4), 0, 1, 2);
        // the coat of the second fits the first and the third
        changed("0 and 1, or 1 and 2", putOn(wides(SAME, new int[] {10, 20, 10}, 99, 10, 98), 3), 0, 1, 1);
        // the first one's fits the second and the third
        changed("0 and 1, or 0 and 2", putOn(wides(SAME, new int[] {9, 10, 10}, 10, 98, 99), 3), 0, 1, 1);
        changed("0 and 2, or 1 and 2", putOn(wides(SAME, new int[] {10, 10, 9}, 98, 99, 10), 3), 0, 2, 1);
    }

    private void termOut() {
        q.says(TERMS, "OUT of a MAN: behind how many DAYS he takes his COAT off.");
        TailorRegiment x = of("ill worn;easy 5;man a tall 5 wide 5;man b tall 5 wide 5;coat a tall 5 wide 5 worn 9;"
                + "coat b tall 5 wide 5 worn 3;");
        putOn(x, 2);
        q.due("on the next day", x.out(0), 1);
        q.due("on the third", x.out(1), 3);
        x.day();
        q.due("he has none now", x.out(0), 0);
        q.due("one day less", x.out(1), 2);
        // the seed 17 becomes 400: the wettest day there is
        TailorRegiment dry = of("ill tight;easy 0;rain 1;draw 17;" + MAN + COAT);
        dry.don(0, 0);
        q.due("without rain", dry.out(0), -1);
        q.due("without rain", dry.rout(), -1);
        TailorRegiment well = of("ill 3-day;easy 2;" + MAN + COAT);
        well.don(0, 0);
        q.due("it fits him before he looks", well.out(0), -1);
    }

    private void fronted(TailorRegiment x, int n, int many, int which) {
        q.due("front(" + n + ", 0)", x.front(n, 0), many);
        q.due("front(" + n + ", 1)", x.front(n, 1), which);
    }

    private void termFront() {
        q.says(TERMS, "FRONT of n: the fewest MEN in COATS whose COATS together are so WIDE at least;"
                + " of like ones the least set as bits.");
        TailorRegiment x = worn(10, 30, 20, 30);
        fronted(x, 0, 0, 0);
        fronted(x, 10, 1, 1);
        fronted(x, 11, 1, 2);
        fronted(x, 30, 1, 2);
        fronted(x, 31, 2, 3);
        fronted(x, 41, 2, 6);
        fronted(x, 51, 2, 10);
        fronted(x, 60, 2, 10);
        fronted(x, 61, 3, 11);
        fronted(x, 90, 4, 15);
        x.doff(1);
        fronted(x, 11, 1, 4);
        fronted(x, 60, 3, 13);
        fronted(x, 61, -1, -1);
    }

    private void winged(String of, TailorRegiment x, int apart, int left) {
        q.due(of + ": wings(0)", x.wings(0), apart);
        q.due(of + ": wings(1)", x.wings(1), left);
    }

    private void termWings() {
        q.says(TERMS, "WINGS: MEN in COATS parted in two so that the COATS of both differ in WIDE least, the one with the"
                + " least number on the left; of like ones the least set on the left as bits.");
        winged("nobody", worn(), 0, 0);
        winged("one", worn(9), 9, 1);
        winged("one of 0", worn(0), 0, 1);
        winged("two", worn(9, 7), 2, 1);
        winged("three", worn(5, 9, 4), 0, 5);
        winged("like ones", worn(5, 5, 5, 5), 0, 3);
        winged("0 on the right", worn(5, 0, 5), 0, 1);
        winged("no even parting", worn(7, 5, 4), 2, 1);
        TailorRegiment x = worn(50, 5, 9, 4);
        x.doff(0);
        winged("the least number of those in coats", x, 0, 10);
        winged("six", worn(99, 99, 99, 99, 99, 99), 0, 7);
    }

    private void cut(int due, int bolt, int... tallWide) {
        StringBuilder b = new StringBuilder("bolt " + bolt + ";");
        for (int i = 0; i < tallWide.length; i += 2) {
            b.append("coat ").append((char) ('a' + i)).append(" tall ").append(tallWide[i]).append(" wide ")
                    .append(tallWide[i + 1]).append(';');
        }
        q.due("cloth() of " + b, of(b.toString()).cloth(), due);
    }

    private void termCloth() {
        q.says(TERMS, "CLOTH: all COATS cut side by side in rows no wider than bolt tells (each by its WIDE); a row is as"
                + " long as its tallest: the least length together.");
        cut(0, 0);
        cut(9, 30, 5, 10, 9, 10, 7, 10);
        cut(14, 29, 5, 10, 9, 10, 7, 10);
        cut(21, 19, 5, 10, 9, 10, 7, 10);
        cut(9, 0, 5, 0, 9, 0, 7, 0);
        cut(0, 5, 0, 5, 0, 5);
        // 9 beside 8 and 4 beside 3; told in turns
        cut(13, 20, 9, 10, 4, 10, 8, 10, 3, 10);
        // the wide 6 needs the 4, not the 3
        cut(20, 10, 10, 6, 10, 7, 10, 4, 10, 3);
        cut(594, 99, 99, 99, 99, 99, 99, 99, 99, 99, 99, 99, 99, 99);
        cut(99, 594, 99, 99, 99, 99, 99, 99, 99, 99, 99, 99, 99, 99);
        cut(198, 593, 99, 99, 99, 99, 99, 99, 99, 99, 99, 99, 99, 99);
    }

    private static TailorRegiment talls(String like, int... talls) {
        StringBuilder b = new StringBuilder(like);
        for (int i = 0; i < talls.length; i++) {
            b.append("man ").append((char) ('a' + i)).append(" tall ").append(talls[i]).append(" wide 5;");
        }
        return of(b.toString());
    }

    private void coloured(TailorRegiment x, int many, int... due) {
        q.due("buttons()", x.buttons(), many);
        q.lies("buttons", x, due);
    }

    private void termButtons() {
        q.says(TERMS, "BUTTONS: two MEN who differ in tall by no more than like tells are taken for each other if their"
                + " buttons are of one colour: the fewest colours so that none are; of like ones the first (MAN by MAN:"
                + " the least colour).");
        coloured(talls("like 3;", 10, 13), 2, 0, 1);
        coloured(talls("like 3;", 10, 14), 1, 0, 0);
        coloured(talls("like 3;", 14, 10), 1, 0, 0);
        coloured(talls("like 0;", 7, 7, 8), 2, 0, 1, 0);
        coloured(talls("", 7, 9, 12), 2, 0, 1, 0);
        coloured(talls("like 99;", 0, 99, 50, 1, 98, 49), 6, 0, 1, 2, 3, 4, 5);
        // the greedy one would need three: 10 and 16 of one colour, then 12 and 14 of two others
        coloured(talls("", 10, 16, 12, 14), 2, 0, 1, 1, 0);
        coloured(talls("like 1;", 1, 3, 5, 7, 9, 11), 1, 0, 0, 0, 0, 0, 0);
    }

    private void rests(String of, TailorRegiment x, int man, int other, int due, int... lying) {
        q.due(of + ": reach(" + man + ", " + other + ")", x.reach(man, other), due);
        q.lies(of, x, lying);
    }

    private void termReach() {
        q.says(TERMS, "REACH of two MEN: each reaches for a COAT that nobody WEARS; if both for one, neither gets it, else"
                + " each gets his; at RESTS neither, the other one's staying so, would have one that SITS less ILL by"
                + " reaching for another (who gets none: as by 1,000, whatever he WEARS).");
        TailorRegiment one = wides("", new int[] {5, 5}, 5);
        rests("one coat: both reach for it, and rest", one, 0, 1, 1, 0, 0);
        rests("each his own, or crossed: none would have better", wides("", new int[] {10, 20}, 10, 20), 0, 1, 2, 0, 1);
        // crossed, the first would rather have the third, and then the other one his own
        rests("a third coat", wides(SAME, new int[] {10, 20}, 10, 20, 11), 0, 1, 1, 0, 1);
        rests("as many as there are pairs", wides("ill 3;", new int[] {5, 5}, 5, 5, 5), 0, 1, 6, 0, 1);
        rests("999 is less ill than none", wides("ill 999;", new int[] {5, 5}, 5, 5), 0, 1, 2, 0, 1);
        TailorRegiment his = wides(SAME, new int[] {10, 20, 30}, 10, 50, 60);
        his.don(0, 0);
        rests("whatever he wears: it does not count", his, 0, 1, 2, 1, 2);
        TailorRegiment taken = wides(SAME, new int[] {10, 20, 30}, 10, 50, 60);
        taken.don(2, 1);
        rests("one that nobody wears", taken, 0, 1, 2, 0, 2);
    }

    private void termOdds() {
        q.says(TERMS, "ODDS: that it does not RAIN in n DAYS, whatever the SEED is.");
        for (int draw : new int[] {0, 1, 500, 999}) {
            TailorRegiment x = of("rain 30;draw " + draw + ";");
            for (int day = 0; day < 2; day++) {
                q.due("odds(1, 0)", x.odds(1, 0), 7);
                q.due("odds(1, 1)", x.odds(1, 1), 10);
                q.due("odds(3, 0)", x.odds(3, 0), 343);
                q.due("odds(3, 1)", x.odds(3, 1), 1000);
                x.day();
            }
        }
    }

    private void will() {
        q.says(18, "The COAT a MAN WEARS behind n DAYS (0 .. 60; -1: none); rain as the SEED tells (what 1), none (0);");
        TailorRegiment x = of("ill worn;easy 59;man a tall 5 wide 5;man b tall 5 wide 5;coat a tall 5 wide 5;"
                + "coat b tall 5 wide 5 worn 59;coat c tall 5 wide 5;");
        x.don(0, 2);
        q.due("0 days", x.will(0, 0, 0), 2);
        q.due("0 days, rain", x.will(0, 0, 1), 2);
        q.due("59 days", x.will(0, 59, 0), 2);
        q.due("60 days", x.will(0, 60, 0), -1);
        q.due("60 days, rain", x.will(0, 60, 1), -1);
        q.due("who has none", x.will(1, 0, 0), -1);
        q.due("who has none", x.will(1, 60, 1), -1);
        x.don(1, 1);
        q.due("now", x.will(1, 0, 0), 1);
        q.due("1 day", x.will(1, 1, 0), -1);
        // the seed 17 becomes 400, then 871: of 100 they are 0 and 71
        TailorRegiment wet = of("ill tight;easy 0;rain 1;draw 17;" + MAN + COAT);
        wet.don(0, 0);
        q.due("rain as the seed tells", wet.will(0, 1, 1), -1);
        q.due("none", wet.will(0, 60, 0), 0);
        wet.day();
        q.due("as it did", wet.man(0, 3), -1);
        q.says(18, "-2 if one can't be.");
        int[][] wrong = {{-1, 1, 0}, {2, 1, 0}, {6, 1, 0}, {MIN, 1, 0}, {MAX, 1, 0}, {0, -1, 0}, {0, 61, 0}, {0, MIN, 0},
            {0, MAX, 0}, {0, 1, -1}, {0, 1, 2}, {0, 1, MIN}, {0, 1, MAX}};
        for (int[] w : wrong) {
            q.due("will(" + w[0] + ", " + w[1] + ", " + w[2] + ")", x.will(w[0], w[1], w[2]), -2);
        }
        q.due("in an empty one", new TailorRegiment().will(0, 0, 0), -2);
    }

    private void out() {
        q.says(19, "OUT (1 .. 60; 0: he WEARS none);");
        for (int easy : new int[] {0, 1, 58, 59}) {
            TailorRegiment x = of("ill worn;easy " + easy + ";" + MAN + COAT);
            q.due("he wears none", x.out(0), 0);
            x.don(0, 0);
            q.due("easy " + easy, x.out(0), easy + 1);
        }
        q.says(19, "NONE if not in these, or there is none such.");
        for (int easy : new int[] {60, 61, 999}) {
            TailorRegiment x = of("ill worn;easy " + easy + ";" + MAN + COAT);
            x.don(0, 0);
            q.due("easy " + easy, x.out(0), -1);
        }
        TailorRegiment x = of(MAN + COAT);
        for (int man : new int[] {-1, 1, 6, MIN, MAX}) {
            q.due("out(" + man + ")", x.out(man), -1);
        }
        q.due("in an empty one", new TailorRegiment().out(0), -1);
    }

    private void fitted() {
        q.says(20, "MEN whom theirs FITS now, as bits.");
        TailorRegiment x = wides("ill loose;easy 1;", new int[] {10, 20, 30, 40}, 11, 22, 31, 40);
        q.due("who wears none does not fit", x.fitted(), 0);
        putOn(x, 3);
        q.due("by easy at the most", x.fitted(), 5);
        q.due("all six", putOn(wides("", new int[6], 0, 0, 0, 0, 0, 0), 6).fitted(), 63);
        q.due("in an empty one", new TailorRegiment().fitted(), 0);
    }

    private void dress() {
        q.says(21, "DRESS what 0: how many, 1: by how much they SIT ILL together;");
        TailorRegiment x = wides("ill tight+loose;", new int[] {10, 20, 30}, 12, 23);
        for (int i = 0; i < 2; i++) {
            q.due("dress(0)", x.dress(0), 2);
            q.due("dress(1)", x.dress(1), 5);
        }
        q.due("all at the worst", wides("ill 999;easy 999;", new int[6], 0, 0, 0, 0, 0, 0).dress(1), 5994);
        q.due("none fits", wides("ill 1;easy 0;", new int[6], 0).dress(1), 0);
        q.due("without men: dress(0)", of(COAT).dress(0), 0);
        q.due("without coats: dress(0)", of(MAN).dress(0), 0);
        q.due("in an empty one: dress(0)", new TailorRegiment().dress(0), 0);
        q.due("in an empty one: dress(1)", new TailorRegiment().dress(1), 0);
        q.says(21, "NONE for another what.");
        for (int what : new int[] {-1, 2, MIN, MAX}) {
            q.due("dress(" + what + ")", x.dress(what), -1);
        }
        q.says(21, "The COAT of each MAN lies there then (-1: none).");
        TailorRegiment none = of(MAN + "man b tall 5 wide 6;");
        none.dress(1);
        q.lies("without coats", none, -1, -1);
        TailorRegiment y = of(COAT);
        y.dress(0);
        q.lies("without men", y);
        x.dress(1);
        q.lies("each man's", x, 0, 1, -1);
    }

    private void sewing() {
        q.says(22, "SEWING what 0: inches together, 1: hemmed, 2: taken in (below 0: let out);");
        sewn("in", pair("ill loose+long;easy 0;", "tall 5 wide 5", "tall 7 wide 8"), 5, 2, 3);
        sewn("out", pair("ill tight+long;easy 0;", "tall 5 wide 9", "tall 7 wide 5 seam 9"), 6, 2, -4);
        sewn("none", pair("", "tall 5 wide 9", "tall 5 wide 9"), 0, 0, 0);
        q.says(22, "-100 if it does not FIT by any, or one can't be.");
        sewn("by none", pair("ill 1;easy 0;", "tall 5 wide 9", "tall 5 wide 9 seam 20"), -100, -100, -100);
        TailorRegiment x = of("ill 0;" + MAN + "man b tall 5 wide 5;" + COAT);
        int[][] wrong = {{-1, 0, 0}, {1, 0, 0}, {6, 0, 0}, {MIN, 0, 0}, {MAX, 0, 0}, {0, -1, 0}, {0, 2, 0}, {0, 6, 0},
            {0, MIN, 0}, {0, MAX, 0}, {0, 0, -1}, {0, 0, 3}, {0, 0, MIN}, {0, 0, MAX}};
        for (int[] w : wrong) {
            q.due("sewing(" + w[0] + ", " + w[1] + ", " + w[2] + ")", x.sewing(w[0], w[1], w[2]), -100);
        }
        q.due("one coat, two men", x.sewing(0, 1, 0), 0);
        q.due("in an empty one", new TailorRegiment().sewing(0, 0, 0), -100);
    }

    private void rota() {
        q.says(23, "ROTA what 0: k, 1: how many FIT;");
        TailorRegiment x = putOn(wides(SAME, new int[] {10, 20}, 20, 11), 2);
        q.due("rota(0)", x.rota(0), 1);
        q.due("rota(1)", x.rota(1), 1);
        x.doff(0);
        q.due("rota(0) of less", x.rota(0), 0);
        q.due("rota(1) of less", x.rota(1), 0);
        q.says(23, "NONE without MEN, or for another what.");
        q.due("without men: rota(0)", of(COAT).rota(0), -1);
        q.due("without men: rota(1)", of(COAT).rota(1), -1);
        q.due("in an empty one", new TailorRegiment().rota(0), -1);
        for (int what : new int[] {-1, 2, MIN, MAX}) {
            q.due("rota(" + what + ")", x.rota(what), -1);
        }
    }

    private void change() {
        q.says(24, "CHANGE what 0: the first one, 1: the other one, 2: how many FIT then;");
        TailorRegiment two = putOn(wides(SAME, new int[] {10, 20}, 20, 10), 2);
        changed("two", two, 0, 1, 2);
        two.doff(0);
        changed("one of them", two, 0, 1, 1);
        changed("the last two", putOn(wides(SAME, new int[] {1, 2, 3, 4, 5, 6}, 1, 2, 3, 4, 6, 5), 6), 4, 5, 6);
        q.says(24, "NONE if there are none, or for another what.");
        changed("one man", putOn(wides(SAME, new int[] {10}, 20), 1), -1, -1, -1);
        changed("an empty one", new TailorRegiment(), -1, -1, -1);
        TailorRegiment x = putOn(wides(SAME, new int[] {10, 20}, 20, 10), 2);
        for (int what : new int[] {-1, 3, MIN, MAX}) {
            q.due("change(" + what + ")", x.change(what), -1);
        }
    }

    private void front() {
        q.says(25, "FRONT (0 .. 999) what 0: how many, 1: which, as bits;");
        fronted(worn(99, 99, 99, 99, 99, 99), 594, 6, 63);
        fronted(worn(99, 99, 99, 99, 99, 99), 0, 0, 0);
        fronted(new TailorRegiment(), 0, 0, 0);
        q.says(25, "NONE if all are not enough, or one can't be.");
        fronted(worn(99, 99, 99, 99, 99, 99), 595, -1, -1);
        fronted(worn(99, 99, 99, 99, 99, 99), 999, -1, -1);
        fronted(worn(0), 1, -1, -1);
        fronted(new TailorRegiment(), 1, -1, -1);
        TailorRegiment x = worn(9);
        for (int n : new int[] {-1, 1000, MIN, MAX}) {
            fronted(x, n, -1, -1);
        }
        for (int what : new int[] {-1, 2, MIN, MAX}) {
            q.due("front(0, " + what + ")", x.front(0, what), -1);
        }
    }

    private void wings() {
        q.says(26, "WINGS what 0: by how much they differ, 1: who is on the left, as bits;");
        winged("two", worn(3, 8), 5, 1);
        winged("nobody", new TailorRegiment(), 0, 0);
        q.says(26, "NONE for another what.");
        for (int what : new int[] {-1, 2, MIN, MAX}) {
            q.due("wings(" + what + ")", worn(3, 8).wings(what), -1);
        }
    }

    private void cloth() {
        q.says(27, "CLOTH; NONE if a COAT is wider than the bolt.");
        cut(5, 10, 5, 10);
        cut(-1, 9, 5, 10);
        cut(-1, 10, 5, 10, 4, 11);
        cut(-1, 0, 0, 1);
        cut(0, 0, 0, 0);
        q.due("no coats", new TailorRegiment().cloth(), 0);
        TailorRegiment x = of("bolt 4;" + MAN + COAT);
        q.due("wider", x.cloth(), -1);
        x.takein(0, 1);
        q.due("no wider now", x.cloth(), 5);
    }

    private void buttons() {
        q.says(28, "BUTTONS: how many colours. That of each MAN lies there then.");
        coloured(new TailorRegiment(), 0);
        coloured(talls("", 9), 1, 0);
        coloured(talls("", 9, 9, 9), 3, 0, 1, 2);
        TailorRegiment x = talls("", 9, 90);
        x.dress(0);
        q.lies("before", x, -1, -1);
        coloured(x, 1, 0, 0);
    }

    private void reach() {
        q.says(29, "REACH: how many RESTS;");
        TailorRegiment x = wides("ill tight+loose;", new int[] {10, 20, 30}, 20, 10);
        rests("two", x, 0, 1, 2, 0, 1);
        q.says(29, "NONE if both are one, all COATS are worn, or one can't be.");
        rests("both are one", x, 1, 1, -1);
        x.don(0, 0);
        rests("one is left", x, 0, 1, 1, 1, 1);
        x.don(2, 1);
        rests("all are worn", x, 0, 1, -1);
        x.doff(2);
        for (int far : new int[] {-1, 3, 6, MIN, MAX}) {
            rests("no such one", x, far, 0, -1);
            rests("no such other", x, 0, far, -1);
        }
        rests("no coats", of(MAN + "man b tall 1 wide 1;"), 0, 1, -1);
        rests("one man", of(MAN + COAT), 0, 1, -1);
        rests("an empty one", new TailorRegiment(), 0, 1, -1);
        q.says(29, "The COATS of the first of these lie there then (the first one's, the other one's; of like ones the least"
                + " numbers; behind 0, NONE: nothing).");
        TailorRegiment y = wides("ill tight+loose;", new int[] {10, 30}, 31, 20, 10);
        // the first in the third, the other in the first
        rests("the first one's first", y, 0, 1, 1, 2, 0);
        rests("the other way round", y, 1, 0, 1, 0, 2);
        rests("of like ones the least", wides("ill 0;", new int[] {10, 30}, 31, 20, 10), 0, 1, 6, 0, 1);
        y.buttons();
        rests("behind NONE nothing", y, 0, 0, -1);
        y.buttons();
        rests("behind NONE nothing", y, 0, 9, -1);
        y.buttons();
        y.don(0, 0);
        y.don(1, 1);
        rests("one is left", y, 0, 1, 1, 2, 2);
    }

    private void turning() {
        q.says(30, "The COAT by whose turning (WORN 0) most MEN FIT theirs; of like ones the first; of those not TURNED;");
        TailorRegiment x = of("ill worn;easy 5;man a tall 5 wide 5;man b tall 5 wide 5;man c tall 5 wide 5;"
                + "coat a tall 5 wide 5 worn 9;coat b tall 5 wide 5 worn 9;coat c tall 5 wide 5 worn 9;");
        q.due("nobody wears any: the first", x.turning(), 0);
        x.don(0, 2);
        q.due("the one he wears", x.turning(), 2);
        x.don(1, 1);
        q.due("of like ones the first", x.turning(), 1);
        x.turn(1);
        q.due("of those not turned", x.turning(), 2);
        x.turn(2);
        q.due("the first is left", x.turning(), 0);
        TailorRegiment zero = of("ill worn;easy 0;" + MAN + COAT + "coat b tall 5 wide 5 worn 1;");
        zero.don(0, 1);
        q.due("worn 0, not 1", zero.turning(), 1);
        q.says(30, "NONE if there is none such.");
        x.turn(0);
        q.due("all are turned", x.turning(), -1);
        q.due("no coats", of(MAN).turning(), -1);
        q.due("in an empty one", new TailorRegiment().turning(), -1);
        x.undo();
        q.due("one is not", x.turning(), 0);
    }

    private void ragsNakedPopular() {
        TailorRegiment x = wides("ill tight+loose;easy 2;", new int[] {10, 20, 11}, 12, 50, 9);
        q.says(31, "COATS that FIT nobody, as bits.");
        q.due("the second", x.rags(), 2);
        q.due("without men all", wides("", new int[0], 1, 2, 3, 4, 5, 6).rags(), 63);
        q.due("without coats", of(MAN).rags(), 0);
        q.due("in an empty one", new TailorRegiment().rags(), 0);
        q.says(32, "MEN whom no COAT FITS, as bits.");
        q.due("the second", x.naked(), 2);
        q.due("without coats all", wides("", new int[6]).naked(), 63);
        q.due("without men", of(COAT).naked(), 0);
        q.due("in an empty one", new TailorRegiment().naked(), 0);
        q.says(33, "How many MEN a COAT FITS;");
        int[] due = {2, 0, 2};
        for (int coat = 0; coat < due.length; coat++) {
            q.due("popular(" + coat + ")", x.popular(coat), due[coat]);
        }
        q.due("without men", of(COAT).popular(0), 0);
        q.due("all six", wides("", new int[6], 0).popular(0), 6);
        q.says(33, "NONE if there is none such.");
        for (int coat : new int[] {-1, 3, 6, MIN, MAX}) {
            q.due("popular(" + coat + ")", x.popular(coat), -1);
        }
        q.due("in an empty one", new TailorRegiment().popular(0), -1);
    }

    private void lawAndEase() {
        TailorRegiment x = putOn(wides("ill tight*9+loose;easy 3;", new int[] {10, 20, 30}, 10, 24, 29), 3);
        q.says(34, "How many FIT theirs now, if easy told n (0 .. 999);");
        int[][] due = {{0, 1}, {3, 1}, {4, 2}, {8, 2}, {9, 3}, {999, 3}};
        for (int[] d : due) {
            q.due("law(" + d[0] + ")", x.law(d[0]), d[1]);
        }
        q.due("easy stays", x.about(2), 3);
        q.due("999 at most", putOn(wides("ill 9999;", new int[] {5}, 5), 1).law(999), 1);
        q.due("in an empty one", new TailorRegiment().law(0), 0);
        q.says(34, "NONE for another n.");
        for (int n : new int[] {-1, 1000, MIN, MAX}) {
            q.due("law(" + n + ")", x.law(n), -1);
        }
        q.says(35, "The least easy (0 .. 999) by which all who WEAR a COAT FIT theirs now.");
        q.due("the worst of them", x.ease(), 9);
        x.doff(2);
        q.due("of those who wear one", x.ease(), 4);
        x.doff(1);
        q.due("0", x.ease(), 0);
        x.doff(0);
        q.due("nobody wears one", x.ease(), 0);
        q.due("999", putOn(wides("ill 9999;", new int[] {5}, 5), 1).ease(), 999);
        q.due("in an empty one", new TailorRegiment().ease(), 0);
    }

    private void breadth() {
        q.says(36, "How WIDE all COATS are that somebody WEARS, together.");
        TailorRegiment x = worn(10, 20, 40);
        q.due("all", x.breadth(), 70);
        x.doff(1);
        q.due("those that somebody wears", x.breadth(), 50);
        x.doff(0);
        x.doff(2);
        q.due("none", x.breadth(), 0);
        q.due("the most", worn(99, 99, 99, 99, 99, 99).breadth(), 594);
        q.due("in an empty one", new TailorRegiment().breadth(), 0);
    }

    private void rout() {
        q.says(37, "Behind how many DAYS (0 .. 60) nobody WEARS a COAT first;");
        TailorRegiment x = of("ill worn;easy 59;man a tall 5 wide 5;man b tall 5 wide 5;coat a tall 5 wide 5;"
                + "coat b tall 5 wide 5 worn 50;");
        q.due("now", x.rout(), 0);
        x.don(1, 1);
        q.due("10", x.rout(), 10);
        x.don(0, 0);
        q.due("the last of them", x.rout(), 60);
        q.due("in an empty one", new TailorRegiment().rout(), 0);
        q.says(37, "NONE if not in these.");
        TailorRegiment later = of("ill worn;easy 60;" + MAN + COAT);
        later.don(0, 0);
        q.due("61", later.rout(), -1);
        TailorRegiment never = of("ill 0;" + MAN + COAT);
        never.don(0, 0);
        q.due("never", never.rout(), -1);
    }

    private void odd(int rain, int n, int upper, int lower) {
        TailorRegiment x = of("rain " + rain + ";");
        q.due("rain " + rain + ": odds(" + n + ", 0)", x.odds(n, 0), upper);
        q.due("rain " + rain + ": odds(" + n + ", 1)", x.odds(n, 1), lower);
    }

    private void odds() {
        q.says(38, "ODDS (n 0 .. 4) the upper part (0), the lower part (1), in lowest terms (0 of 1);");
        odd(0, 0, 1, 1);
        odd(0, 4, 1, 1);
        odd(100, 0, 1, 1);
        odd(100, 1, 0, 1);
        odd(100, 4, 0, 1);
        odd(50, 4, 1, 16);
        odd(1, 4, 96059601, 100000000);
        odd(99, 4, 1, 100000000);
        odd(98, 3, 1, 125000);
        odd(30, 1, 7, 10);
        odd(64, 2, 81, 625);
        q.due("not told", new TailorRegiment().odds(4, 0), 1);
        q.says(38, "NONE if one can't be.");
        TailorRegiment x = of("rain 30;");
        int[][] wrong = {{-1, 0}, {5, 0}, {MIN, 1}, {MAX, 1}, {1, -1}, {1, 2}, {1, MIN}, {1, MAX}};
        for (int[] w : wrong) {
            q.due("odds(" + w[0] + ", " + w[1] + ")", x.odds(w[0], w[1]), -1);
        }
    }

    private void lies() {
        q.says(39, "The i-th number of what lies there;");
        TailorRegiment x = talls("like 0;", 9, 9, 8, 9);
        x.buttons();
        int[] due = {0, 1, 0, 2};
        for (int i = 0; i < due.length; i++) {
            q.due("lies(" + i + ")", x.lies(i), due[i]);
        }
        q.says(39, "-2 if there is none such.");
        for (int i : new int[] {-1, 4, 5, 6, 7, MIN, MAX}) {
            q.due("lies(" + i + ")", x.lies(i), -2);
        }
        x.reach(0, 0);
        q.due("behind NONE", x.lies(0), -2);
        q.due("at first", talls("", 9).lies(0), -2);
        q.due("in an empty one", new TailorRegiment().lies(0), -2);
    }
}
