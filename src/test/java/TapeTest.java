/** Promises 1 to 5: a new object, feed, end, regiment, fault. */
public final class TapeTest {
    private static final Check CHECK = new Check("TapeTest");

    public static void main(String[] args) {
        newObject();
        feedAndEnd();
        regimentResets();
        faultKeepsAll();
        noTokens();
        misplacedTokens();
        tooMany();
        formulas();
        namesToldAlready();
        numbersThatCannotBe();
        CHECK.finish();
    }

    private static void fault(String text, int sort, int place) {
        TailorRegiment x = new TailorRegiment();
        Check.tell(x, text);
        CHECK.due("regiment() of " + text, x.regiment(), -1);
        CHECK.due("fault(0) of " + text, x.fault(0), sort);
        CHECK.due("fault(1) of " + text, x.fault(1), place);
    }

    private static void good(String text, int men) {
        TailorRegiment x = new TailorRegiment();
        Check.tell(x, text);
        CHECK.due("regiment() of " + text, x.regiment(), men);
        CHECK.due("fault(0) of " + text, x.fault(0), 0);
        CHECK.due("fault(1) of " + text, x.fault(1), -1);
    }

    private static void newObject() {
        TailorRegiment x = new TailorRegiment();
        int[] due = {0, 0, 10, 150, 2, 0, 0, 0, 0, 0, 0, 0, 0, 0};
        for (int what = 0; what < due.length; what++) {
            CHECK.due("new: about(" + what + ")", x.about(what), due[what]);
        }
        CHECK.due("new: fault(0)", x.fault(0), 0);
        CHECK.due("new: fault(1)", x.fault(1), -1);
        CHECK.due("new: man(0, 0)", x.man(0, 0), -2);
        CHECK.due("new: coat(0, 0)", x.coat(0, 0), -2);
        CHECK.due("new: undo()", x.undo(), false);
        CHECK.due("new: redo()", x.redo(), false);
        CHECK.due("new: back(0)", x.back(0), -1);
        CHECK.due("new: odds(4, 0)", x.odds(4, 0), 1);
        CHECK.due("new: day()", x.day(), 0);
        CHECK.due("new: undo() of the day", x.undo(), true);
        CHECK.due("new: day 0 again", x.about(5), 0);
    }

    private static void feedAndEnd() {
        TailorRegiment x = new TailorRegiment();
        for (int i = 1; i <= 79; i++) {
            CHECK.due("feed " + i, x.feed(0x20202020, 0x20202020, 0x20202020, 0x20202020, 0x20202020), 20 * i);
        }
        CHECK.due("end(-1)", x.end(-1), -1);
        CHECK.due("end(min)", x.end(Integer.MIN_VALUE), -1);
        CHECK.due("end(1581)", x.end(1581), -1);
        CHECK.due("end(max)", x.end(Integer.MAX_VALUE), -1);
        CHECK.due("about(11)", x.about(11), 1580);
        CHECK.due("the 1600th", x.feed(0, 0, 0, 0, 0), 1600);
        CHECK.due("too many", x.feed(0, 0, 0, 0, 0), -1);
        CHECK.due("nothing came", x.about(11), 1600);
        CHECK.due("end(1600)", x.end(1600), 1600);
        CHECK.due("end(1581)", x.end(1581), 1581);
        CHECK.due("one too many", x.feed(0, 0, 0, 0, 0), -1);
        CHECK.due("nothing came", x.about(11), 1581);
        CHECK.due("end(1580)", x.end(1580), 1580);
        CHECK.due("fits again", x.feed(0x65617379, 0x20313233, 0x3b202020, 0x20202020, 0x20202020), 1600);
        CHECK.due("1600 bytes are read", x.regiment(), 0);
        CHECK.due("the tape is empty then", x.about(11), 0);
        CHECK.due("easy was told at the end", x.about(2), 123);
        CHECK.due("end(0)", x.end(0), 0);
        CHECK.due("end(1) of none", x.end(1), -1);
        bytesInTheirOrder();
    }

    private static void bytesInTheirOrder() {
        TailorRegiment x = new TailorRegiment();
        // "man", 'q' tall 12 wide 3; byte by byte, the highest of each number first
        CHECK.due("feed", x.feed(0x6d616e20, 0x71207461, 0x6c6c2031, 0x32207769, 0x64652033), 20);
        CHECK.due("feed", x.feed(0x3b80ff00, 0, 0, 0, 0), 40);
        CHECK.due("end(21)", x.end(21), 21);
        CHECK.due("regiment()", x.regiment(), 1);
        CHECK.due("tall", x.man(0, 0), 12);
        CHECK.due("wide", x.man(0, 1), 3);
        x.feed(0xe1202020, 0, 0, 0, 0);
        x.end(1);
        CHECK.due("a byte above 127 is no letter", x.regiment(), -1);
        CHECK.due("fault(0)", x.fault(0), 1);
        x.feed(0x20, 0, 0, 0, 0);
        x.end(4);
        CHECK.due("a zero byte is no blank", x.regiment(), -1);
        CHECK.due("fault(1)", x.fault(1), 0);
    }

    private static void regimentResets() {
        TailorRegiment x = Check.regiment("man a tall 5 wide 5 grows 1;coat c tall 5 wide 5;rain 50;draw 7;");
        x.later(9);
        x.don(0, 0);
        x.day();
        x.undo();
        x.image(1);
        x.seen(1, true);
        x.dress(0);
        CHECK.due("about(7)", x.about(7), 1);
        CHECK.due("about(8)", x.about(8), 1);
        CHECK.due("about(9)", x.about(9), 1);
        CHECK.due("about(13)", x.about(13), 1);
        Check.tell(x, "man b tall 1 wide 2;man c tall 3 wide 4;draw 33;");
        CHECK.due("regiment()", x.regiment(), 2);
        int[] due = {2, 0, 10, 150, 2, 0, 33, 0, 0, 0, 9, 0, 0, 0};
        for (int what = 0; what < due.length; what++) {
            CHECK.due("told anew: about(" + what + ")", x.about(what), due[what]);
        }
        CHECK.due("nobody wears", x.man(0, 3), -1);
        CHECK.due("the box is empty", x.back(1), -1);
        CHECK.due("no rain is told", x.odds(1, 0), 1);
        CHECK.due("an empty tape is an empty regiment", x.regiment(), 0);
        CHECK.due("no man", x.about(0), 0);
        CHECK.due("the time stays", x.about(10), 9);
        CHECK.due("no fault", x.fault(0), 0);
        nothingIsLeft();
    }

    private static void nothingIsLeft() {
        TailorRegiment x = Check.regiment("man a tall 5 wide 5;man b tall 5 wide 5;coat c tall 5 wide 5;"
                + "coat d tall 5 wide 5;ill 1+day;easy 1;bolt 1;like 1;rain 100;draw 1;");
        x.seen(1, false);
        x.seen(0, false);
        x.untell(0);
        x.growths(0);
        x.dress(0);
        x.day();
        Check.tell(x, "man b tall 5 wide 5;coat c tall 6 wide 6;");
        CHECK.due("regiment()", x.regiment(), 1);
        int[] due = {1, 1, 10, 150, 2, 0, 0, 0, 0, 0, 0, 0, 0, 0};
        for (int what = 0; what < due.length; what++) {
            CHECK.due("nothing is left: about(" + what + ")", x.about(what), due[what]);
        }
        CHECK.due("ill as if not told", x.misfit(0, 0), 2);
        CHECK.due("no rain", x.odds(1, 0), 1);
        CHECK.due("nothing is known", x.growths(0), 31);
        CHECK.due("nothing to untell", x.untell(0), false);
        CHECK.due("nothing to untell", x.untell(1), false);
        x.seen(2, true);
        // wide 5 + 2 g in 6, long 1, worn 2: g 2 is tight 3, so 9 + 3; g 1 is tight 1, so 3 + 3
        CHECK.due("the new coat counts", x.growths(0), 2);
        CHECK.due("dress(0)", x.dress(0), 1);
        CHECK.due("dress(1)", x.dress(1), 2);
        CHECK.due("don(0, 0)", x.don(0, 0), -1);
        x.day();
        CHECK.due("it does not rain", x.coat(0, 0), 6);
    }

    private static void faultKeepsAll() {
        TailorRegiment x = Check.regiment("man a tall 5 wide 5;coat c tall 5 wide 5;easy 3;bolt 4;like 5;ill worn;draw 6;");
        x.don(0, 0);
        x.day();
        x.image(0);
        x.day();
        x.undo();
        x.seen(0, true);
        x.dress(0);
        Check.tell(x, "man z tall 1 wide 1;man y tall 1 wide 1;easy 1;bolt 1;like 1;draw 1;ill 1+1;?");
        CHECK.due("regiment()", x.regiment(), -1);
        int[] due = {1, 1, 3, 4, 5, 1, 893, 2, 1, 1, 0, 0, 1, 1};
        for (int what = 0; what < due.length; what++) {
            CHECK.due("behind a fault: about(" + what + ")", x.about(what), due[what]);
        }
        CHECK.due("he wears it still", x.man(0, 3), 0);
        CHECK.due("it sits as before", x.misfit(0, 0), 1);
        CHECK.due("lies(0)", x.lies(0), 0);
        CHECK.due("redo()", x.redo(), true);
        CHECK.due("back(0)", x.back(0), 1);
        CHECK.due("fault(0)", x.fault(0), 1);
        CHECK.due("fault(1)", x.fault(1), 76);
        CHECK.due("fault(-1)", x.fault(-1), -1);
        CHECK.due("fault(2)", x.fault(2), -1);
        CHECK.due("regiment()", x.regiment(), 0);
        CHECK.due("the latest has none", x.fault(0), 0);
        CHECK.due("nor a place", x.fault(1), -1);
    }

    private static void noTokens() {
        fault("$", 1, 0);
        fault("Man a tall 1 wide 1;", 1, 0);
        fault("easy\t5;", 1, 4);
        fault("easy\r5;", 1, 4);
        fault("man abcdefghi tall 1 wide 1;", 1, 4);
        good("man abcdefgh tall 1 wide 1;", 1);
        fault("easy 12345;", 1, 5);
        fault("easy 00001;", 1, 5);
        good("easy 0001;", 0);
        fault("easy 1a;", 1, 5);
        fault("easy 1000a;", 1, 5);
        fault("man a tall 1wide 1;", 1, 11);
        fault("ill 1or 2;", 1, 4);
        fault("ill 1 or2 and 3day;", 1, 14);
        fault("easy 5;_", 1, 7);
        fault("ill tight ! loose;", 1, 10);
        fault("ill tight,", 1, 9);
        fault("easy -", 2, 5);
        good("easy5;bolt6;", 0);
        good("man\na\ntall 1\nwide 2\n;\n", 1);
        good("  \n ", 0);
    }

    private static void misplacedTokens() {
        fault(";", 2, 0);
        fault("xan a tall 1 wide 1;", 2, 0);
        good("man xan tall 1 wide 1;man may tall 1 wide 1;man coax tall 1 wide 1;", 3);
        fault("cloth", 2, 0);
        fault("tall 1", 2, 0);
        fault("5", 2, 0);
        fault("man", 2, 3);
        fault("man  ", 2, 5);
        fault("man 5", 2, 4);
        for (String word : ("man tall wide grows coat seam worn ill easy bolt like rain draw or and not tight loose"
                + " short long day").split(" ")) {
            fault("man " + word + " tall 1 wide 1;", 2, 4);
            fault("coat " + word + " tall 1 wide 1;", 2, 5);
        }
        good("man e tall 1 wide 1;man n tall 1 wide 1;man line tall 1 wide 1;man unit tall 1 wide 1;", 4);
        good("man mann tall 1 wide 1;man ma tall 1 wide 1;man talls tall 1 wide 1;", 3);
        fault("man a tall wide", 2, 11);
        fault("man a wide 1 tall 1", 2, 6);
        fault("man a tall 1 wide 1", 2, 19);
        fault("man a tall 1 wide 1 seam 1;", 2, 20);
        fault("man a tall 1 wide 1 grows 1 grows 1;", 2, 28);
        fault("man a tall 1 wide 1 grows;", 2, 25);
        fault("coat a tall 1 wide 1 grows 1;", 2, 21);
        fault("coat a tall 1 wide 1 worn 1 seam 1;", 2, 28);
        good("coat a tall 1 wide 1 worn 1;coat b tall 1 wide 1 seam 1;coat c tall 1 wide 1 seam 1 worn 1;", 0);
        fault("easy 5 bolt", 2, 7);
        fault("easy ;", 2, 5);
        fault("easy;", 2, 4);
        fault("easy 5  \n", 2, 9);
        fault("ill;", 2, 3);
        fault("ill tight loose;", 2, 10);
        fault("ill man", 2, 4);
        fault("ill tall;", 2, 4);
    }

    private static void tooMany() {
        StringBuilder men = new StringBuilder();
        StringBuilder coats = new StringBuilder();
        for (int i = 0; i < 6; i++) {
            men.append("man ").append((char) ('a' + i)).append(" tall 1 wide 1;");
            coats.append("coat ").append((char) ('a' + i)).append(" tall 1 wide 1;");
        }
        good(men.toString() + coats, 6);
        fault(men + "man 5", 2, men.length());
        fault(coats + "coat a", 2, coats.length());
        fault(coats.toString() + men + "coat", 2, men.length() + coats.length());
        for (String line : new String[] {"ill 1;", "easy 1;", "bolt 1;", "like 1;", "rain 1;", "draw 1;"}) {
            good(line, 0);
            fault(line + line, 2, line.length());
            fault("man a tall 1 wide 1;" + line + " " + line, 2, 21 + line.length());
            String other = line.startsWith("easy") ? "bolt 5;" : "easy 5;";
            fault(line + other + line, 2, line.length() + other.length());
        }
    }

    private static void formulas() {
        fault("ill 1+;", 2, 6);
        fault("ill +1;", 2, 4);
        fault("ill 1 not 2;", 2, 6);
        fault("ill 1+not 2;", 2, 6);
        fault("ill 1<not 2;", 2, 6);
        fault("ill 1<2=3;", 2, 7);
        fault("ill 1 and;", 2, 9);
        fault("ill 1 or or 1;", 2, 9);
        fault("ill (1;", 2, 6);
        fault("ill 1);", 2, 5);
        fault("ill ();", 2, 5);
        fault("ill (1", 2, 6);
        fault("ill 1 and and 2;", 2, 10);
        good("ill (1<2)=3 and not not 1 or (1 or 2)*3%4/5-6;", 0);
        good("ill not 1<2;", 0);
        good("ill 9999;", 0);
        good("ill " + Check.times("(", 7) + "1" + Check.times(")", 7) + ";", 0);
        fault("ill " + Check.times("(", 8) + "1" + Check.times(")", 8) + ";", 2, 11);
        good("ill " + Check.times("not ", 7) + "1;", 0);
        fault("ill " + Check.times("not ", 8) + "1;", 2, 32);
        good("ill not (not (not (not 1)));", 0);
        fault("ill not (not (not (not (1))));", 2, 23);
        fault("ill ((((((not (1)))))));", 2, 14);
        fault("ill (((((((not 1)))))));", 2, 11);
        good("ill ((((((1))))))+((((((1))))));", 0);
        good("ill " + Check.times("1+", 29) + "1;", 0);
        fault("ill " + Check.times("1+", 30) + "1;", 2, 64);
        fault("ill " + Check.times("1+", 30) + "(1);", 2, 64);
        fault("ill " + Check.times("1 and ", 30) + "not 1;", 2, 188);
        good("ill (" + Check.times("1+", 28) + "1);", 0);
        fault("ill (" + Check.times("1+", 29) + "1);", 2, 63);
        good("ill " + Check.times("not not not not not not not 1 and ", 29) + "not not not not not not not 1;", 0);
        units("", 0);
        units("ill day;", 1);
        units("ill tight*3+5;", 3);
        units("ill (1);", 2);
        units("ill not ((1)+2);", 4);
    }

    private static void units(String text, int units) {
        CHECK.due("about(12) of " + text, Check.regiment(text).about(12), units);
    }

    private static void namesToldAlready() {
        fault("man a tall 1 wide 1;man a 5", 3, 24);
        fault("man ab tall 1 wide 1;man b tall 1 wide 1;man a tall 1 wide 1;man ab", 3, 65);
        fault("coat x tall 1 wide 1;coat y tall 1 wide 1;coat y tall 1 wide 1;", 3, 47);
        good("man a tall 1 wide 1;coat a tall 1 wide 1;man b tall 1 wide 1;coat b tall 1 wide 1;", 2);
        good("man a tall 1 wide 1;man aa tall 1 wide 1;man aaa tall 1 wide 1;", 3);
        good("man abcdefgh tall 1 wide 1;man abcdefg tall 1 wide 1;man abcdefgi tall 1 wide 1;", 3);
        fault("man abcdefgh tall 1 wide 1;man abcdefgh", 3, 31);
        fault("man a tall 1 wide 1;man a", 3, 24);
    }

    private static void numbersThatCannotBe() {
        good("man a tall 99 wide 99 grows 9;", 1);
        good("man a tall 0 wide 0 grows 0;", 1);
        fault("man a tall 100 wide 1;", 4, 11);
        fault("man a tall 1 wide 100;", 4, 18);
        fault("man a tall 1 wide 1 grows 10;", 4, 26);
        good("coat a tall 99 wide 99 seam 20 worn 99;", 0);
        fault("coat a tall 100 wide 1;", 4, 12);
        fault("coat a tall 1 wide 100;", 4, 19);
        fault("coat a tall 1 wide 1 seam 21;", 4, 26);
        fault("coat a tall 1 wide 1 worn 100;", 4, 26);
        fault("coat a tall 1 wide 1 seam 1 worn 100;", 4, 33);
        good("easy 999;bolt 999;like 99;rain 100;draw 999;", 0);
        good("easy 0;bolt 0;like 0;rain 0;draw 0;", 0);
        fault("easy 1000;", 4, 5);
        fault("bolt 1000;", 4, 5);
        fault("like 100;", 4, 5);
        fault("rain 101;", 4, 5);
        fault("draw 1000;", 4, 5);
        fault("easy 9999$", 4, 5);
    }
}
