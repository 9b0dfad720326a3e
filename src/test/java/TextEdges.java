import java.util.Arrays;

/** The first terms (the text, its TOKENS, limits and FAULTS) and promises 1 to 5, sentence by sentence. */
final class TextEdges {
    private static final int TERMS = Quotes.TERMS;
    private static final String WORDS = "man coat ill easy bolt like rain draw tall wide grows seam worn or and not"
            + " tight loose short long day";
    private static final String SIGNS = ";()<>=+-*/%";
    private static final String MAN = "man a tall 1 wide 1;";
    private static final String COAT = "coat a tall 1 wide 1;";

    private final Quotes q;

    TextEdges(Quotes q) {
        this.q = q;
    }

    void run() {
        calls();
        aText();
        lines();
        formulas();
        words();
        numbers();
        signs();
        blanks();
        asLongAsCanBe();
        noLetterBehind();
        noNames();
        sixMen();
        sixCoats();
        onceEach();
        units();
        within();
        firstByPlace();
        noToken();
        cannotStand();
        toldAlready();
        cannotBe();
        newObject();
        feed();
        feedTooMuch();
        end();
        regiment();
        aFaultKeepsAll();
        fault();
    }

    /** So many lines of a sort, named a, b, c ... */
    private static String many(String sort, int n) {
        StringBuilder b = new StringBuilder();
        for (int i = 0; i < n; i++) {
            b.append(sort).append(' ').append((char) ('a' + i)).append(" tall 1 wide 1;");
        }
        return b.toString();
    }

    private void calls() {
        q.says(TERMS, "An object is used for at most 512 calls after it has been made; what later calls answer is free.");
        TailorRegiment x = new TailorRegiment();
        q.due("1st call", x.feed(0x64726177, 0x20393939, 0x3b0a0a0a, 0x0a0a0a0a, 0x0a0a0a0a), 20);
        q.due("2nd call", x.regiment(), 0);
        for (int call = 3; call <= 510; call++) {
            q.due("call " + call, x.day(), 0);
        }
        q.due("511th call", x.about(5), 508);
        q.due("512th call", x.undo(), true);
    }

    private void aText() {
        q.says(TERMS, "A REGIMENT is a text of at most 1,600 bytes (empty at first): regiment = {line}.");
        TailorRegiment x = new TailorRegiment();
        q.due("empty at first", x.about(11), 0);
        q.due("no line", x.regiment(), 0);
        q.good(" ".repeat(1600), 0);
        q.due("1,600 bytes, read to the last", q.good(" ".repeat(1593) + "easy 7;", 0).about(2), 7);
        q.fault(" ".repeat(1594) + "easy 7", "", 2);
        q.fault(" ".repeat(1599), "$", 1);
        TailorRegiment all = q.good(many("man", 6) + many("coat", 6) + "ill 1;easy 1;bolt 1;like 1;rain 1;draw 1;", 6);
        q.due("eighteen lines: coats", all.about(1), 6);
        q.due("eighteen lines: the last", all.about(6), 1);
        TailorRegiment turned = q.good("draw 1;rain 1;like 1;bolt 1;easy 1;ill 1;" + many("coat", 6) + many("man", 6), 6);
        q.due("in any order: coats", turned.about(1), 6);
        q.due("in any order: the first", turned.about(6), 1);
    }

    private void lines() {
        q.says(TERMS, "line = man NAME tall N wide N [grows N] ; | coat NAME tall N wide N [seam N] [worn N] ;"
                + " | ill e ; | easy N ; | bolt N ; | like N ; | rain N ; | draw N ;.");
        q.due("grows", q.good("man a tall 1 wide 2 grows 3;", 1).man(0, 2), 3);
        q.due("seam alone", q.good("coat a tall 1 wide 2 seam 3;", 0).coat(0, 2), 3);
        q.due("worn alone", q.good("coat a tall 1 wide 2 worn 4;", 0).coat(0, 3), 4);
        TailorRegiment both = q.good("coat a tall 1 wide 2 seam 3 worn 4;", 0);
        q.due("both: seam", both.coat(0, 2), 3);
        q.due("both: worn", both.coat(0, 3), 4);
        for (String line : new String[] {"man a tall 1 wide 2;", "man a tall 1 wide 2 grows 3;", "coat a tall 1 wide 2;",
            "coat a tall 1 wide 2 seam 3 worn 4;", "ill day;", "easy 1;", "bolt 1;", "like 1;", "rain 1;", "draw 1;"}) {
            q.good(line, line.startsWith("man") ? 1 : 0);
            q.fault(line.substring(0, line.length() - 1), "", 2);
            q.fault(line, ";", 2);
            eachLeftOut(line.replace(";", " ;").split(" "));
        }
        q.fault("man a tall 1 wide 2 grows 3 ", "grows 3;", 2);
        q.fault("man a tall 1 wide 2 ", "seam 3;", 2);
        q.fault("man a tall 1 wide 2 ", "worn 3;", 2);
        q.fault("coat a tall 1 wide 2 ", "grows 3;", 2);
        q.fault("coat a tall 1 wide 2 seam 3 ", "seam 3;", 2);
        q.fault("coat a tall 1 wide 2 worn 3 ", "seam 3;", 2);
        q.fault("coat a tall 1 wide 2 worn 3 ", "worn 3;", 2);
        q.fault("man a ", "wide 2 tall 1;", 2);
        q.fault("easy 1 ", "2;", 2);
    }

    /** What stands behind the one that is left out can't stand in its place. */
    private void eachLeftOut(String[] tokens) {
        StringBuilder before = new StringBuilder();
        for (int i = 0; i + 1 < tokens.length; i++) {
            q.fault(before.toString(), String.join(" ", Arrays.copyOfRange(tokens, i + 1, tokens.length)), 2);
            before.append(tokens[i]).append(' ');
        }
    }

    /** By tight 7, short 10, worn 5. */
    private void ill(String formula, int due) {
        TailorRegiment x = q.good("ill " + formula + ";man a tall 50 wide 40;coat c tall 40 wide 33 worn 5;", 1);
        q.due("misfit by " + formula, x.misfit(0, 0), due);
    }

    private void formulas() {
        q.says(TERMS, "e = both {or both}. both = one {and one}. one = not one | sum [(< | > | =) sum]."
                + " sum = term {(+ | -) term}. term = unit {(* | / | %) unit}."
                + " unit = N | tight | loose | short | long | worn | day | ( e ).");
        ill("0 or 0 or 3", 1);
        ill("1 or 0 and 0", 1);
        ill("0 and 0 or 1", 1);
        ill("1 and 1 and 0", 0);
        ill("not 0 and 0", 0);
        ill("not 0 or 1", 1);
        ill("not 5=4", 1);
        ill("not not 5", 1);
        ill("2=2 and 3>2 and 1<2", 1);
        ill("1+1=2", 1);
        ill("9-3-2", 4);
        ill("2+3*4", 14);
        ill("20/3/2", 3);
        ill("20%7*3", 18);
        ill("2*(3+4)", 14);
        ill("(1<2)+(1<2)", 2);
        ill("(not 0)+4", 5);
        ill("tight", 7);
        ill("loose", 0);
        ill("short", 10);
        ill("long", 0);
        ill("worn", 5);
        ill("day", 0);
        noFormulas();
    }

    private void noFormulas() {
        q.fault("ill 1 or ", ";", 2);
        q.fault("ill 1 and ", "or 1;", 2);
        q.fault("ill not ", ";", 2);
        q.fault("ill 1<2", "<3;", 2);
        q.fault("ill 1=1", "=1;", 2);
        q.fault("ill 1>", "=1;", 2);
        q.fault("ill 1<", "not 2;", 2);
        q.fault("ill 1+", "not 2;", 2);
        q.fault("ill 1*", "-2;", 2);
        q.fault("ill ", "-2;", 2);
        q.fault("ill 1 ", "1;", 2);
        q.fault("ill 1 ", "not 1;", 2);
        q.fault("ill (", ");", 2);
        q.fault("ill (1", ";", 2);
        q.fault("ill (1 or 1", ";", 2);
        q.fault("ill 1", ");", 2);
        q.fault("ill (1", "", 2);
        for (String word : "a man coat ill easy bolt like rain draw tall wide grows seam or and".split(" ")) {
            q.fault("ill ", word + ";", 2);
            q.fault("ill 1+", word + ";", 2);
        }
    }

    private void words() {
        q.says(TERMS, "TOKENS: words (a .. z, 8 at most)");
        q.good("man abcdefgh tall 1 wide 1;", 1);
        q.good("man a tall 1 wide 1;man z tall 1 wide 1;", 2);
        q.fault("man ", "abcdefghi tall 1 wide 1;", 1);
        q.fault("", "zzzzzzzz", 2);
        q.fault("", "zzzzzzzzz", 1);
        q.fault("man ", "A tall 1 wide 1;", 1);
        q.fault("man ", "Z", 1);
        q.fault("man ", "`", 1);
        q.fault("man ", "{", 1);
        q.fault("man ab", "C tall 1 wide 1;", 1);
    }

    private void numbers() {
        q.says(TERMS, "N (1 to 4 digits)");
        q.due("one digit", q.good("easy 0;", 0).about(2), 0);
        q.due("one digit", q.good("easy 9;", 0).about(2), 9);
        q.due("four digits", q.good("easy 0987;", 0).about(2), 987);
        q.due("four digits", q.good("ill 9999-9001;" + MAN + COAT, 1).misfit(0, 0), 998);
        q.fault("easy ", "00000;", 1);
        q.fault("easy ", "00001;", 1);
        q.fault("ill ", "12345;", 1);
        q.fault("ill ", "1234567890123;", 1);
    }

    private void signs() {
        q.says(TERMS, "signs ; ( ) < > = + - * / %");
        for (int b = 0; b < 256; b++) {
            boolean token = b >= 'a' && b <= 'z' || b >= '0' && b <= '9' || SIGNS.indexOf(b) >= 0;
            if (b != 32 && b != 10) {
                q.fault("", String.valueOf((char) b), token ? 2 : 1);
                q.fault("easy 5;\n", String.valueOf((char) b), token ? 2 : 1);
            }
        }
        q.good("ill 1+2-3*4/5%6<7;", 0);
        q.good("ill (1>2)=(3);", 0);
    }

    private void blanks() {
        q.says(TERMS, "blanks (32, 10) part them or not");
        q.good("\n man\na  tall\n\n1 wide 1 ; \n", 1);
        q.good("man a tall1 wide1 grows1;", 1);
        q.due("or not", q.good("easy12;bolt34;like5;rain6;draw7;", 0).about(3), 34);
        q.good("ill(1)or(2)and(3)<4;", 0);
        q.good(" ", 0);
        q.good("\n", 0);
        for (int b : new int[] {0, 9, 11, 12, 13, 31, 33, 127, 128, 160, 255}) {
            q.fault("easy", (char) b + "5;", 1);
        }
        q.fault("", "ea sy 5;", 2);
        q.fault("easy 1 ", "2;", 2);
    }

    private void asLongAsCanBe() {
        q.says(TERMS, "each is as long as can be");
        q.fault("", "mana tall 1 wide 1;", 2);
        q.fault("man atall ", "1 wide 1;", 2);
        q.due("12, not 1 and 2", q.good("easy 12;", 0).about(2), 12);
        q.good("man mann tall 1 wide 1;man tal tall 1 wide 1;man talll tall 1 wide 1;", 3);
        q.fault("ill 1 ", "ora 2;", 2);
    }

    private void noLetterBehind() {
        q.says(TERMS, "no letter directly behind an N.");
        q.fault("easy ", "1a;", 1);
        q.fault("easy ", "1234z;", 1);
        q.fault("man a tall ", "1wide 1;", 1);
        q.fault("man a tall 1 wide ", "1grows 1;", 1);
        q.fault("ill ", "1or 1;", 1);
        q.fault("ill 1 or 1 and ", "1day;", 1);
        q.good("ill 1 or 1;", 0);
        q.good("ill 1\nor 1;", 0);
        q.good("ill 1+day;", 0);
        q.good("ill (1)or 1;", 0);
        q.good("ill 1 or1;", 0);
    }

    private void noNames() {
        q.says(TERMS, "Words that stand for themselves here are no NAMES.");
        for (String word : WORDS.split(" ")) {
            q.fault("man ", word + " tall 1 wide 1;", 2);
            q.fault("coat ", word + " tall 1 wide 1;", 2);
        }
        for (String word : "e n line both one sum term unit name men regiment".split(" ")) {
            q.good("man " + word + " tall 1 wide 1;coat " + word + " tall 1 wide 1;", 1);
        }
    }

    private void sixMen() {
        q.says(TERMS, "At most 6 MEN (tall, wide 0 .. 99; grows 0 .. 9, 0 if not told)");
        q.good(many("man", 6), 6);
        q.fault(many("man", 6), "man g tall 1 wide 1;", 2);
        TailorRegiment x = q.good("man a tall 0 wide 99 grows 9;man b tall 99 wide 0 grows 0;man c tall 5 wide 5;", 3);
        int[][] due = {{0, 99, 9}, {99, 0, 0}, {5, 5, 0}};
        for (int man = 0; man < 3; man++) {
            for (int what = 0; what < 3; what++) {
                q.due("man(" + man + ", " + what + ")", x.man(man, what), due[man][what]);
            }
        }
        q.fault("man a tall ", "100 wide 1;", 4);
        q.fault("man a tall 1 wide ", "100;", 4);
        q.fault("man a tall 1 wide 1 grows ", "10;", 4);
    }

    private void sixCoats() {
        q.says(TERMS, "6 COATS (tall, wide 0 .. 99; seam 0 .. 20, worn 0 .. 99, 0 both if not told), numbered as told,"
                + " each sort by itself");
        q.due("six", q.good(many("coat", 6), 0).about(1), 6);
        q.fault(many("coat", 6), "coat g tall 1 wide 1;", 2);
        TailorRegiment x = q.good("coat a tall 0 wide 99 seam 20 worn 99;man z tall 7 wide 8;"
                + "coat b tall 99 wide 0 seam 0 worn 0;coat c tall 5 wide 6;man y tall 9 wide 8;", 2);
        int[][] due = {{0, 99, 20, 99}, {99, 0, 0, 0}, {5, 6, 0, 0}};
        for (int coat = 0; coat < 3; coat++) {
            for (int what = 0; what < 4; what++) {
                q.due("coat(" + coat + ", " + what + ")", x.coat(coat, what), due[coat][what]);
            }
        }
        q.due("the first man", x.man(0, 0), 7);
        q.due("the other man", x.man(1, 0), 9);
        q.good(many("man", 6) + many("coat", 6), 6);
        q.fault("coat a tall ", "100 wide 1;", 4);
        q.fault("coat a tall 1 wide ", "100;", 4);
        q.fault("coat a tall 1 wide 1 seam ", "21;", 4);
        q.fault("coat a tall 1 wide 1 worn ", "100;", 4);
    }

    private void onceEach() {
        q.says(TERMS, "ill, easy (0 .. 999; 10), bolt (0 .. 999; 150), like (0 .. 99; 2), rain (0 .. 100 of 100; 0),"
                + " draw (0 .. 999; 0) once each");
        TailorRegiment none = q.good("", 0);
        TailorRegiment least = q.good("easy 0;bolt 0;like 0;rain 0;draw 0;", 0);
        TailorRegiment most = q.good("easy 999;bolt 999;like 99;rain 100;draw 999;", 0);
        int[][] due = {{2, 10, 0, 999}, {3, 150, 0, 999}, {4, 2, 0, 99}, {6, 0, 0, 999}};
        for (int[] d : due) {
            q.due("not told: about(" + d[0] + ")", none.about(d[0]), d[1]);
            q.due("the least: about(" + d[0] + ")", least.about(d[0]), d[2]);
            q.due("the most: about(" + d[0] + ")", most.about(d[0]), d[3]);
        }
        q.due("no rain if not told", none.odds(1, 0), 1);
        q.due("no rain at the least", least.odds(1, 0), 1);
        q.due("rain at the most", most.odds(1, 0), 0);
        q.fault("easy ", "1000;", 4);
        q.fault("bolt ", "1000;", 4);
        q.fault("like ", "100;", 4);
        q.fault("rain ", "101;", 4);
        q.fault("draw ", "1000;", 4);
        for (String line : new String[] {"ill 1;", "easy 1;", "bolt 1;", "like 1;", "rain 1;", "draw 1;"}) {
            q.fault(line, line, 2);
            q.fault(line + MAN, line, 2);
        }
    }

    private void units() {
        q.says(TERMS, "60 units in all, 30 in one e");
        q.due("30", q.good("ill " + "1+".repeat(29) + "1;", 0).about(12), 30);
        q.fault("ill " + "1+".repeat(30), "1;", 2);
        q.fault("ill " + "1+".repeat(30), "(1);", 2);
        q.due("( e ) is one, too", q.good("ill (" + "1+".repeat(28) + "1);", 0).about(12), 30);
        q.fault("ill (" + "1+".repeat(29), "1);", 2);
        q.due("not is none", q.good("ill " + "not 1 or ".repeat(29) + "not 1;", 0).about(12), 30);
        q.fault("ill " + "not 1 or ".repeat(30) + "not ", "1;", 2);
        q.due("of each kind", q.good("ill 1+tight+loose+short+long+worn+day;", 0).about(12), 7);
        q.due("it reckons with all", q.good("ill " + "9+".repeat(29) + "9;" + MAN + COAT, 1).misfit(0, 0), 270);
    }

    private void within() {
        q.says(TERMS, "(a unit ( e ), or a one behind not, within 6 others at most).");
        q.good("ill " + "(".repeat(7) + "1" + ")".repeat(7) + ";", 0);
        q.fault("ill " + "(".repeat(7), "(1" + ")".repeat(8) + ";", 2);
        q.good("ill " + "not ".repeat(7) + "1;", 0);
        q.fault("ill " + "not ".repeat(7), "not 1;", 2);
        q.good("ill (not (not (not (1))));", 0);
        q.good("ill not (not (not (not 1)));", 0);
        q.fault("ill (not (not (not (", "not 1))));", 2);
        q.fault("ill not (not (not (not ", "(1))));", 2);
        q.good("ill " + "(".repeat(7) + "1" + ")".repeat(7) + "+" + "(".repeat(7) + "1" + ")".repeat(7) + ";", 0);
        q.good("ill " + "not ".repeat(7) + "1 or " + "not ".repeat(7) + "1;", 0);
        q.fault("ill " + "(".repeat(6) + "1+(1)+(", "(1)" + ")".repeat(7) + ";", 2);
    }

    private void firstByPlace() {
        q.says(TERMS, "FAULTS, the first by its place (bytes from 0; the end: the text's length), at one place the least:");
        q.fault("", "$", 1);
        q.fault(" ", "$", 1);
        q.fault("man", "", 2);
        q.fault("man \n ", "", 2);
        q.fault("easy ", "1000;$", 4);
        q.fault("", "$easy 1000;", 1);
        q.fault("easy 5;", "easy 1000;", 2);
        q.fault(MAN + "man ", "a tall 100 wide 1;", 3);
        q.fault(MAN + "man b tall ", "100 wide 1;man a tall 1 wide 1;", 4);
        // no TOKEN, which can't stand there either
        q.fault("easy 5", "$", 1);
        q.fault("easy 5 ", "abcdefghi", 1);
        q.fault("ill " + "1+".repeat(30), "$;", 1);
        q.fault("ill " + "1+".repeat(30), "1a;", 1);
        // no TOKEN, and too great for a number
        q.fault("easy ", "10000;", 1);
        q.fault("easy ", "1000a;", 1);
        // a number that can't be where none can stand, a NAME told already where none can stand
        q.fault("easy 5 ", "1000;", 2);
        q.fault("", "1000", 2);
        q.fault(MAN + "man b tall 1 ", "a 1;", 2);
        // one man too many whose name was told
        q.fault(many("man", 6), "man a tall 1 wide 1;", 2);
    }

    private void noToken() {
        q.says(TERMS, "1 no TOKEN");
        q.fault("", "?", 1);
        q.fault("man a tall 1 wide 1", ",", 1);
        q.fault("ill 1", "&1;", 1);
        q.fault("man a", "_b tall 1 wide 1;", 1);
        q.fault("easy 5;", "" + (char) 0, 1);
        q.fault("easy 5;", "" + (char) 255, 1);
    }

    private void cannotStand() {
        q.says(TERMS, "2 one that can't stand there (one of a sort too many or a second time: at the line's first word;"
                + " a unit too many, what is within 7 others: at its first TOKEN, or the not)");
        q.fault("", "regiment", 2);
        q.fault("man ", "tall", 2);
        q.fault(many("man", 6), "man", 2);
        q.fault(many("coat", 6) + many("man", 6) + " ", "coat", 2);
        q.fault("ill 1;", "ill", 2);
        q.fault("draw 1;\n", "draw", 2);
        q.fault("ill " + "1*".repeat(30), "day", 2);
        q.fault("ill " + "1*".repeat(30), "(", 2);
        q.fault("ill " + "(".repeat(7), "(", 2);
        q.fault("ill " + "(".repeat(7), "not", 2);
        q.fault("ill " + "not ".repeat(7), "(", 2);
        q.fault("ill " + "not ".repeat(7), "not", 2);
    }

    private void toldAlready() {
        q.says(TERMS, "3 a NAME told already (of its sort)");
        q.fault(MAN + "man ", "a", 3);
        q.fault(COAT + "coat ", "a", 3);
        q.fault(many("man", 5) + "man ", "e tall 1 wide 1;", 3);
        q.fault(many("coat", 5) + "coat ", "c tall 1 wide 1;", 3);
        q.fault("man abcdefgh tall 1 wide 1;man ", "abcdefgh tall 1 wide 1;", 3);
        q.good("man abcdefgh tall 1 wide 1;man abcdefgi tall 1 wide 1;man abcdefg tall 1 wide 1;", 3);
        q.good(MAN + COAT, 1);
        q.good(COAT + MAN, 1);
        TailorRegiment x = q.good(MAN + COAT, 1);
        Check.tell(x, MAN + COAT);
        q.due("another text may tell it again", x.regiment(), 1);
    }

    private void cannotBe() {
        q.says(TERMS, "4 a number that can't be.");
        q.fault("man a tall ", "100", 4);
        q.fault("man a tall ", "9999", 4);
        q.fault("man a tall 1 wide 1 grows ", "10", 4);
        q.fault("coat a tall 1 wide 1 seam ", "21", 4);
        q.fault("coat a tall 1 wide 1 seam 20 worn ", "100", 4);
        q.fault("easy ", "1000", 4);
        q.fault("rain ", "101", 4);
        q.fault("like ", "0100", 4);
        q.good("like 0099;", 0);
        q.good("ill 9999;", 0);
    }

    private void newObject() {
        q.says(1, "An empty REGIMENT.");
        TailorRegiment x = new TailorRegiment();
        int[] due = {0, 0, 10, 150, 2, 0, 0, 0, 0, 0, 0, 0, 0, 0};
        for (int what = 0; what < due.length; what++) {
            q.due("about(" + what + ")", x.about(what), due[what]);
        }
        q.due("no man", x.man(0, 0), -2);
        q.due("no coat", x.coat(0, 0), -2);
        q.due("no box", x.back(0), -1);
        q.due("no act", x.undo(), false);
        q.due("none undone", x.redo(), false);
    }

    private void feed() {
        q.says(2, "Twenty bytes come behind those on the TAPE, of each number the highest first: how many there are");
        TailorRegiment x = new TailorRegiment();
        // "easy 123;bolt 45;lik" and "e 67;draw 89;" with the line feeds behind it
        q.due("the first", x.feed(0x65617379, 0x20313233, 0x3b626f6c, 0x74203435, 0x3b6c696b), 20);
        q.due("those behind", x.feed(0x65203637, 0x3b647261, 0x77203839, 0x3b0a0a0a, 0x0a0a0a0a), 40);
        q.due("regiment()", x.regiment(), 0);
        q.due("easy", x.about(2), 123);
        q.due("bolt", x.about(3), 45);
        q.due("like", x.about(4), 67);
        q.due("draw", x.about(6), 89);
        TailorRegiment y = new TailorRegiment();
        q.due("any numbers", y.feed(-1, Integer.MIN_VALUE, Integer.MAX_VALUE, 0, 1), 20);
        q.due("on the tape", y.about(11), 20);
    }

    private void feedTooMuch() {
        q.says(2, "NONE, and nothing comes, if there would be more than 1,600.");
        TailorRegiment x = new TailorRegiment();
        Check.tell(x, " ".repeat(1573) + "easy 7;");
        q.due("1,600 are not more", x.feed(0x0a0a0a0a, 0x0a0a0a0a, 0x0a0a0a0a, 0x0a0a0a0a, 0x0a0a0a0a), 1600);
        q.due("1,620", x.feed(0, 0, 0, 0, 0), -1);
        q.due("there are", x.about(11), 1600);
        q.due("end(1581)", x.end(1581), 1581);
        q.due("1,601", x.feed(0, 0, 0, 0, 0), -1);
        q.due("there are", x.about(11), 1581);
        q.due("nothing came", x.regiment(), 0);
        q.due("as it was", x.about(2), 7);
    }

    private void end() {
        q.says(3, "The TAPE has its first n bytes: n");
        TailorRegiment x = new TailorRegiment();
        q.due("none of none", x.end(0), 0);
        Check.tell(x, "easy 7;bolt 8;");
        q.due("all", x.end(14), 14);
        q.due("some", x.end(7), 7);
        q.due("what comes, comes behind them", x.feed(0x6c696b65, 0x20393b20, 0x20202020, 0x20202020, 0x20202020), 27);
        q.due("regiment()", x.regiment(), 0);
        q.due("easy", x.about(2), 7);
        q.due("bolt is gone", x.about(3), 150);
        q.due("like", x.about(4), 9);
        Check.tell(x, "$");
        q.due("end(0)", x.end(0), 0);
        q.due("nothing is left", x.regiment(), 0);
        q.says(3, "NONE, doing nothing, if it has not so many, or n is below 0.");
        q.due("one more than none", x.end(1), -1);
        Check.tell(x, "easy 6;");
        for (int n : new int[] {8, 20, 1600, Integer.MAX_VALUE, -1, Integer.MIN_VALUE}) {
            q.due("end(" + n + ")", x.end(n), -1);
            q.due("doing nothing", x.about(11), 7);
        }
        q.due("regiment()", x.regiment(), 0);
        q.due("easy", x.about(2), 6);
    }

    private static TailorRegiment used() {
        TailorRegiment x = Check.regiment("man a tall 5 wide 5 grows 1;man b tall 6 wide 6;coat c tall 5 wide 5;easy 44;"
                + "bolt 45;like 46;rain 50;draw 7;ill tight+worn;");
        x.later(9);
        x.don(0, 0);
        x.day();
        x.day();
        x.undo();
        x.image(1);
        x.seen(1, true);
        x.dress(0);
        return x;
    }

    private void regiment() {
        q.says(4, "The TAPE (empty then) is the REGIMENT (all as told, day 0, no ACTS are kept, nothing is SEEN, nothing"
                + " lies there, BOXES are empty then; the TIME stays): how many MEN");
        TailorRegiment x = used();
        Check.tell(x, "man q tall 8 wide 9;coat r tall 3 wide 4 seam 2 worn 1;draw 33;");
        q.due("how many men", x.regiment(), 1);
        int[] due = {1, 1, 10, 150, 2, 0, 33, 0, 0, 0, 9, 0, 0, 0};
        for (int what = 0; what < due.length; what++) {
            q.due("about(" + what + ")", x.about(what), due[what]);
        }
        q.due("wears none", x.man(0, 3), -1);
        q.due("wide as told", x.man(0, 1), 9);
        q.due("worn as told", x.coat(0, 3), 1);
        q.due("ill is not told now", x.misfit(0, 0), 5 * 3 + 5 * 2 + 1);
        q.due("rain is not told now", x.odds(1, 1), 1);
        q.due("nothing lies there", x.lies(0), -2);
        q.due("nothing to untell", x.untell(0), false);
        q.due("no box", x.back(1), -1);
        q.due("no undo", x.undo(), false);
        q.due("no redo", x.redo(), false);
        TailorRegiment same = used();
        q.due("the empty tape", same.regiment(), 0);
        int[] none = {0, 0, 10, 150, 2, 0, 0, 0, 0, 0, 9, 0, 0, 0};
        for (int what = 0; what < none.length; what++) {
            q.due("the empty tape: about(" + what + ")", same.about(what), none[what]);
        }
        q.due("no man", same.man(0, 0), -2);
    }

    private void aFaultKeepsAll() {
        q.says(4, "NONE: a FAULT (all stays).");
        TailorRegiment x = used();
        Check.tell(x, "man q tall 8 wide 9;man r tall 1 wide 1;man s tall 1 wide 1;coat r tall 3 wide 4;coat t tall 1 wide 1;"
                + "easy 1;bolt 1;like 1;rain 1;draw 33;ill 1+1+1;ill");
        q.due("regiment()", x.regiment(), -1);
        // the seed 7 became 959 + 71
        int[] due = {2, 1, 44, 45, 46, 1, 30, 2, 1, 1, 9, 0, 2, 2};
        for (int what = 0; what < due.length; what++) {
            q.due("about(" + what + ")", x.about(what), due[what]);
        }
        q.due("he wears it", x.man(0, 3), 0);
        q.due("his wide", x.man(0, 1), 6);
        q.due("tall", x.coat(0, 0), 4);
        q.due("ill: tight 2, worn 1", x.misfit(0, 0), 3);
        q.due("rain", x.odds(1, 1), 2);
        q.due("lies(0)", x.lies(0), 0);
        q.due("redo()", x.redo(), true);
        q.due("day", x.about(5), 2);
        q.due("back(1)", x.back(1), 1);
        q.due("untell(0)", x.untell(0), true);
        q.due("the tape was taken", x.about(11), 0);
        q.due("which is an empty regiment", x.regiment(), 0);
    }

    private void fault() {
        q.says(5, "Of the latest regiment() what 0: its FAULT (0), 1: its place (NONE).");
        TailorRegiment x = new TailorRegiment();
        q.due("before any: fault(0)", x.fault(0), 0);
        q.due("before any: fault(1)", x.fault(1), -1);
        Check.tell(x, "easy 1000;");
        x.regiment();
        q.due("fault(0)", x.fault(0), 4);
        q.due("fault(1)", x.fault(1), 5);
        Check.tell(x, "man");
        q.due("till the next one: fault(0)", x.fault(0), 4);
        x.regiment();
        q.due("the latest: fault(0)", x.fault(0), 2);
        q.due("the latest: fault(1)", x.fault(1), 3);
        Check.tell(x, "$");
        x.regiment();
        q.due("at place 0: fault(0)", x.fault(0), 1);
        q.due("at place 0: fault(1)", x.fault(1), 0);
        Check.tell(x, MAN);
        x.regiment();
        q.due("none: fault(0)", x.fault(0), 0);
        q.due("none: fault(1)", x.fault(1), -1);
        q.says(5, "NONE for another what.");
        Check.tell(x, "easy 1000;");
        x.regiment();
        for (int what : new int[] {-1, 2, 3, Integer.MIN_VALUE, Integer.MAX_VALUE}) {
            q.due("fault(" + what + ")", x.fault(what), -1);
        }
    }
}
