/** Promises 20 to 24 and 30 to 35: who fits what, and what would make more fit. */
public final class FittingTest {
    private static final Check CHECK = new Check("FittingTest");
    private static final int[] FAR = {-1, 6, Integer.MIN_VALUE, Integer.MAX_VALUE};

    public static void main(String[] args) {
        fitted();
        dress();
        dressOfLikeOnes();
        dressLies();
        sewing();
        sewingOfLikeOnes();
        sewingAtTheEdges();
        rota();
        change();
        turning();
        ragsAndNaked();
        lawAndEase();
        CHECK.finish();
    }

    /** A text with men and coats of these widths, all tall 9. */
    private static String wides(int[] men, int[] coats) {
        StringBuilder b = new StringBuilder();
        for (int i = 0; i < men.length; i++) {
            b.append("man ").append((char) ('a' + i)).append(" tall 9 wide ").append(men[i]).append(';');
        }
        for (int i = 0; i < coats.length; i++) {
            b.append("coat ").append((char) ('a' + i)).append(" tall 9 wide ").append(coats[i]).append(';');
        }
        return b.toString();
    }

    private static TailorRegiment of(String more, int[] men, int... coats) {
        return Check.regiment(wides(men, coats) + more);
    }

    private static void lies(String of, TailorRegiment x, int... due) {
        CHECK.due(of + ": about(13)", x.about(13), due.length);
        for (int i = 0; i < due.length; i++) {
            CHECK.due(of + ": lies(" + i + ")", x.lies(i), due[i]);
        }
        CHECK.due(of + ": none behind them", x.lies(due.length), -2);
        CHECK.due(of + ": none before them", x.lies(-1), -2);
        CHECK.due(of + ": none far off", x.lies(Integer.MAX_VALUE), -2);
    }

    private static void fitted() {
        TailorRegiment x = of("easy 2;ill tight+loose;", new int[] {10, 20, 30}, 12, 23, 28);
        CHECK.due("none", x.fitted(), 0);
        x.don(0, 0);
        CHECK.due("the first", x.fitted(), 1);
        x.don(1, 1);
        CHECK.due("the second does not fit", x.fitted(), 1);
        x.don(2, 2);
        CHECK.due("the third", x.fitted(), 5);
        CHECK.due("of nobody", new TailorRegiment().fitted(), 0);
    }

    private static void dress() {
        // each fits both, but the least together crosses over
        TailorRegiment x = of("ill loose*loose;", new int[] {10, 12}, 13, 12);
        // a in a: 9, b in b: 0: 9; a in b: 4, b in a: 1: 5
        CHECK.due("dress(0)", x.dress(0), 2);
        CHECK.due("dress(1)", x.dress(1), 5);
        lies("crossed", x, 1, 0);
        // as many as can be comes before the least: a alone in a would be 0
        TailorRegiment many = of("ill loose+tight*999;", new int[] {10, 8}, 10, 15);
        CHECK.due("dress(0)", many.dress(0), 2);
        CHECK.due("dress(1)", many.dress(1), 7);
        lies("many", many, 0, 1);
        TailorRegiment two = of("easy 5;ill loose+tight*999;", new int[] {10, 8, 9}, 10, 15);
        CHECK.due("two: dress(0)", two.dress(0), 2);
        CHECK.due("two: dress(1)", two.dress(1), 6);
        lies("two", two, 1, -1, 0);
        two.don(1, 0);
        CHECK.due("whoever wears what", two.dress(0), 2);
        lies("whoever wears what", two, 1, -1, 0);
        TailorRegiment none = of("easy 0;ill 1;", new int[] {1, 2}, 1, 2);
        CHECK.due("none fits", none.dress(0), 0);
        CHECK.due("none sits ill", none.dress(1), 0);
        lies("none fits", none, -1, -1);
        CHECK.due("nothing is done", none.about(7), 0);
    }

    private static void dressOfLikeOnes() {
        TailorRegiment like = of("ill 3;", new int[] {1, 1, 1, 1, 1, 1}, 1, 1, 1, 1, 1, 1);
        CHECK.due("six", like.dress(0), 6);
        CHECK.due("six of 3", like.dress(1), 18);
        lies("six", like, 0, 1, 2, 3, 4, 5);
        TailorRegiment few = of("ill 3;", new int[] {1, 1, 1, 1}, 1, 1);
        CHECK.due("two of four", few.dress(0), 2);
        lies("none behind all", few, 0, 1, -1, -1);
        TailorRegiment more = of("ill 0;", new int[] {1, 1}, 1, 1, 1);
        CHECK.due("two of three", more.dress(0), 2);
        lies("the least coats", more, 0, 1);
        TailorRegiment worst = of("ill 999;easy 999;", new int[] {1, 1, 1, 1, 1, 1}, 1, 1, 1, 1, 1, 1);
        CHECK.due("all the same", worst.dress(0), 6);
        CHECK.due("by most", worst.dress(1), 5994);
        Check.tell(worst, wides(new int[] {10, 8, 9}, new int[] {10, 15}) + "easy 5;ill loose+tight*999;");
        worst.regiment();
        CHECK.due("fewer, told anew", worst.dress(0), 2);
        CHECK.due("fewer, told anew", worst.dress(1), 6);
        lies("fewer, told anew", worst, 1, -1, 0);
    }

    private static void dressLies() {
        TailorRegiment x = of("", new int[] {1}, 1);
        CHECK.due("nothing lies there", x.about(13), 0);
        CHECK.due("lies(0)", x.lies(0), -2);
        CHECK.due("dress(2)", x.dress(2), -1);
        lies("the dressing, whatever was asked", x, 0);
        CHECK.due("dress(-1)", x.dress(-1), -1);
        TailorRegiment none = new TailorRegiment();
        CHECK.due("dress(0) of none", none.dress(0), 0);
        CHECK.due("dress(1) of none", none.dress(1), 0);
        lies("none", none);
    }

    private static void sewn(String of, TailorRegiment x, int coat, int man, int inches, int hemmed, int in) {
        CHECK.due(of + ": 0", x.sewing(coat, man, 0), inches);
        CHECK.due(of + ": 1", x.sewing(coat, man, 1), hemmed);
        CHECK.due(of + ": 2", x.sewing(coat, man, 2), in);
    }

    private static void sewing() {
        TailorRegiment x = Check.regiment("man a tall 50 wide 40;easy 4;coat a tall 50 wide 40 seam 9;"
                + "coat b tall 50 wide 50;coat c tall 60 wide 40;coat d tall 50 wide 35 seam 9;coat e tall 57 wide 33 seam 20;"
                + "coat f tall 40 wide 40 seam 20;");
        sewn("fits", x, 0, 0, 0, 0, 0);
        sewn("too wide", x, 1, 0, 6, 0, 6);
        sewn("too long", x, 2, 0, 6, 6, 0);
        // tight 3 for each of 5: let out 4 leaves 3
        sewn("too tight", x, 3, 0, 4, 0, -4);
        // 7 * 3 + 7 = 28: let out 7, hemmed 3 leaves 4
        sewn("both", x, 4, 0, 10, 3, -7);
        sewn("too short", x, 5, 0, -100, -100, -100);
        CHECK.due("nothing is done", x.coat(1, 1), 50);
        CHECK.due("no act", x.about(7), 0);
        for (int far : FAR) {
            CHECK.due("sewing(" + far + ", 0, 0)", x.sewing(far, 0, 0), -100);
            CHECK.due("sewing(0, " + far + ", 0)", x.sewing(0, far, 0), -100);
            CHECK.due("sewing(0, 0, " + far + ")", x.sewing(0, 0, far), -100);
        }
        CHECK.due("sewing(0, 1, 0)", x.sewing(0, 1, 0), -100);
        CHECK.due("sewing(0, 0, 3)", x.sewing(0, 0, 3), -100);
        TailorRegiment all = of("ill 0;", new int[] {1}, 1);
        CHECK.due("all fit, but no such coat", all.sewing(1, 0, 0), -100);
        CHECK.due("all fit, but no such man", all.sewing(0, 1, 0), -100);
        TailorRegiment old = Check.regiment("man a tall 9 wide 9;coat a tall 9 wide 12 worn 3;easy 4;");
        sewn("worn counts", old, 0, 0, 2, 0, 2);
        old.turn(0);
        sewn("worn no more", old, 0, 0, 0, 0, 0);
    }

    private static void sewingOfLikeOnes() {
        // one inch of anything fits: the least hemmed, then taken in
        String men = "man a tall 50 wide 50;easy 0;";
        TailorRegiment any = Check.regiment(men + "coat a tall 50 wide 50 seam 5;ill tight+loose+short<1;");
        sewn("taken in rather than let out", any, 0, 0, 1, 0, 1);
        TailorRegiment out = Check.regiment(men + "coat a tall 50 wide 50 seam 5;ill tight+short=0 and loose<1;");
        sewn("taken in first", out, 0, 0, 1, 0, 1);
        TailorRegiment only = Check.regiment(men + "coat a tall 50 wide 50 seam 5;ill loose+short<2;");
        sewn("hemmed 2 or out 2", only, 0, 0, 2, 0, -2);
        TailorRegiment hem = Check.regiment(men + "coat a tall 50 wide 50 seam 1;ill loose+short<2;");
        sewn("hemmed 1 and out 1", hem, 0, 0, 2, 1, -1);
        TailorRegiment none = Check.regiment(men + "coat a tall 50 wide 50;ill loose+short<2;");
        sewn("hemmed 2", none, 0, 0, 2, 2, 0);
    }

    private static void sewingAtTheEdges() {
        String man = "man a tall 0 wide 0;easy 0;";
        TailorRegiment wide = Check.regiment(man + "coat a tall 20 wide 20;coat b tall 0 wide 21;coat c tall 21 wide 0;"
                + "coat d tall 5 wide 3;ill loose+long;");
        sewn("twenty of each", wide, 0, 0, 40, 20, 20);
        sewn("21 taken in", wide, 1, 0, -100, -100, -100);
        sewn("21 hemmed", wide, 2, 0, -100, -100, -100);
        sewn("till 0", wide, 3, 0, 8, 5, 3);
        TailorRegiment past = Check.regiment("man a tall 9 wide 9;easy 0;coat a tall 2 wide 3;coat b tall 9 wide 3;"
                + "ill short<9 and tight<9;");
        sewn("tall 0 is short 9", past, 0, 0, 2, 2, 0);
        sewn("wide 0 is tight 9, whatever seam that makes", past, 1, 0, 3, 0, 3);
        TailorRegiment below = Check.regiment("man a tall 9 wide 9;easy 0;coat a tall 2 wide 3;coat b tall 9 wide 3;"
                + "ill short<10 and tight<10;");
        sewn("neither goes below 0", below, 0, 0, -100, -100, -100);
        sewn("neither goes below 0", below, 1, 0, -100, -100, -100);
        TailorRegiment out = Check.regiment("man a tall 5 wide 99;easy 0;ill tight;coat a tall 5 wide 79 seam 20;"
                + "coat b tall 5 wide 80 seam 18;coat c tall 5 wide 98 seam 20;");
        sewn("let out 20", out, 0, 0, 20, 0, -20);
        sewn("no seam for 19", out, 1, 0, -100, -100, -100);
        sewn("let out 1", out, 2, 0, 1, 0, -1);
        TailorRegiment above = Check.regiment("man a tall 5 wide 90;easy 0;ill loose<10;coat a tall 5 wide 95 seam 20;");
        sewn("wide 99 at most", above, 0, 0, -100, -100, -100);
        TailorRegiment seam = Check.regiment("man a tall 5 wide 40;easy 0;ill tight+loose;coat a tall 5 wide 60 seam 20;");
        sewn("taken in beyond 20 of seam", seam, 0, 0, 20, 0, 20);
        TailorRegiment much = Check.regiment("man a tall 5 wide 50;easy 0;ill tight;coat a tall 5 wide 50;");
        much.takein(0, 30);
        sewn("seam 30, let out 20 at most", much, 0, 0, -100, -100, -100);
    }

    private static void rota() {
        TailorRegiment x = of("ill tight+loose;easy 0;", new int[] {10, 20, 30}, 20, 30, 10);
        CHECK.due("nobody wears any: k", x.rota(0), 0);
        CHECK.due("nobody wears any: fit", x.rota(1), 0);
        x.don(0, 0);
        x.don(1, 1);
        x.don(2, 2);
        // a needs coat 2, which the man 2 behind him wears
        CHECK.due("k", x.rota(0), 2);
        CHECK.due("fit", x.rota(1), 3);
        x.doff(1);
        CHECK.due("k without one", x.rota(0), 2);
        CHECK.due("fit without one", x.rota(1), 2);
        CHECK.due("rota(-1)", x.rota(-1), -1);
        CHECK.due("rota(2)", x.rota(2), -1);
        TailorRegiment y = of("ill tight+loose;easy 0;", new int[] {10, 20, 30, 40}, 40, 10, 20, 30);
        for (int i = 0; i < 4; i++) {
            y.don(i, i);
        }
        CHECK.due("the next one's", y.rota(0), 1);
        CHECK.due("all", y.rota(1), 4);
        TailorRegiment like = of("ill 0;", new int[] {1, 1}, 1, 1);
        like.don(0, 0);
        like.don(1, 1);
        CHECK.due("of like ones the least", like.rota(0), 0);
        CHECK.due("both fit", like.rota(1), 2);
        CHECK.due("no men: rota(0)", new TailorRegiment().rota(0), -1);
        CHECK.due("no men: rota(1)", of("", new int[0], 1).rota(1), -1);
    }

    private static void change() {
        TailorRegiment x = of("ill tight+loose;easy 0;", new int[] {10, 20, 30, 40}, 20, 10, 40, 30);
        CHECK.due("none worn", x.change(0), -1);
        for (int i = 0; i < 4; i++) {
            x.don(i, i);
        }
        CHECK.due("of like ones the first: one", x.change(0), 0);
        CHECK.due("of like ones the first: other", x.change(1), 1);
        CHECK.due("fit then", x.change(2), 2);
        x.doff(0);
        CHECK.due("the third and fourth: one", x.change(0), 2);
        CHECK.due("the third and fourth: other", x.change(1), 3);
        x.doff(3);
        // b wears 10, c wears 40: one who wears none gets what fits him
        CHECK.due("one wears none: one", x.change(0), 0);
        CHECK.due("one wears none: other", x.change(1), 1);
        CHECK.due("one wears none: fit", x.change(2), 1);
        CHECK.due("change(-1)", x.change(-1), -1);
        CHECK.due("change(3)", x.change(3), -1);
        CHECK.due("nothing is done", x.man(1, 3), 1);
        TailorRegiment fit = of("ill tight+loose;easy 0;", new int[] {10, 20}, 10, 20);
        fit.don(0, 0);
        fit.don(1, 1);
        CHECK.due("no more than now", fit.change(0), -1);
        CHECK.due("no more than now", fit.change(2), -1);
        TailorRegiment same = of("ill 0;", new int[] {10, 20}, 10);
        same.don(0, 0);
        CHECK.due("as many as now", same.change(1), -1);
        CHECK.due("nobody", new TailorRegiment().change(0), -1);
    }

    private static void turning() {
        TailorRegiment x = Check.regiment("man a tall 1 wide 1;man b tall 1 wide 1;easy 5;ill worn;"
                + "coat a tall 1 wide 1 worn 9;coat b tall 1 wide 1 worn 4;coat c tall 1 wide 1 worn 9;");
        CHECK.due("all like: the first", x.turning(), 0);
        x.don(0, 1);
        x.don(1, 2);
        CHECK.due("his coat", x.turning(), 2);
        CHECK.due("nothing is done", x.coat(2, 3), 9);
        CHECK.due("no act", x.about(7), 2);
        x.turn(2);
        CHECK.due("the first of those left", x.turning(), 0);
        x.turn(0);
        CHECK.due("the last of those left", x.turning(), 1);
        x.turn(1);
        CHECK.due("all are turned", x.turning(), -1);
        CHECK.due("no coats", new TailorRegiment().turning(), -1);
        // by this formula a turned coat fits no more
        TailorRegiment y = Check.regiment("man a tall 1 wide 1;easy 0;ill worn=0;coat a tall 1 wide 1 worn 9;"
                + "coat b tall 1 wide 1 worn 4;");
        y.don(0, 0);
        CHECK.due("the one that does no harm", y.turning(), 1);
        TailorRegiment z = Check.regiment("man a tall 1 wide 1;easy 0;ill worn=0;coat a tall 1 wide 1 worn 9;");
        z.don(0, 0);
        CHECK.due("the only one, though it harms", z.turning(), 0);
    }

    private static void ragsAndNaked() {
        TailorRegiment x = of("ill tight+loose;easy 2;", new int[] {10, 20, 30}, 11, 50, 31, 9);
        CHECK.due("rags()", x.rags(), 2);
        CHECK.due("naked()", x.naked(), 2);
        int[] due = {1, 0, 1, 1};
        for (int coat = 0; coat < 4; coat++) {
            CHECK.due("popular(" + coat + ")", x.popular(coat), due[coat]);
        }
        CHECK.due("popular(4)", x.popular(4), -1);
        for (int far : FAR) {
            CHECK.due("popular(" + far + ")", x.popular(far), -1);
        }
        TailorRegiment all = of("ill 0;", new int[] {1, 2, 3}, 1, 2);
        CHECK.due("popular with all", all.popular(1), 3);
        CHECK.due("no rags", all.rags(), 0);
        CHECK.due("none naked", all.naked(), 0);
        CHECK.due("coats without men", of("", new int[0], 1, 2).rags(), 3);
        CHECK.due("coats without men", of("", new int[0], 1, 2).popular(0), 0);
        CHECK.due("men without coats", of("", new int[] {1, 2, 3}).naked(), 7);
        all.don(0, 0);
        CHECK.due("worn or not", all.popular(0), 3);
    }

    private static void lawAndEase() {
        TailorRegiment x = of("ill tight+loose;easy 2;", new int[] {10, 20, 30}, 13, 20, 50);
        CHECK.due("ease() of none", x.ease(), 0);
        CHECK.due("law(999) of none", x.law(999), 0);
        x.don(0, 0);
        x.don(1, 1);
        int[][] due = {{0, 1}, {2, 1}, {3, 2}, {999, 2}, {-1, -1}, {1000, -1}, {Integer.MIN_VALUE, -1}};
        for (int[] d : due) {
            CHECK.due("law(" + d[0] + ")", x.law(d[0]), d[1]);
        }
        CHECK.due("ease()", x.ease(), 3);
        x.don(2, 2);
        CHECK.due("law(19)", x.law(19), 2);
        CHECK.due("law(20)", x.law(20), 3);
        CHECK.due("ease()", x.ease(), 20);
        CHECK.due("easy stays", x.about(2), 2);
        TailorRegiment most = of("ill 5000;", new int[] {1}, 1);
        most.don(0, 0);
        CHECK.due("999 at most", most.ease(), 999);
    }
}
