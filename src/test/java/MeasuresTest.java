/** Promises 6 to 8: man, coat, misfit, with how ill a coat sits. */
public final class MeasuresTest {
    private static final Check CHECK = new Check("MeasuresTest");

    public static void main(String[] args) {
        manParts();
        coatParts();
        illUntold();
        formulas();
        facts();
        CHECK.finish();
    }

    private static void manParts() {
        TailorRegiment x = Check.regiment("man a tall 50 wide 40 grows 3;man b tall 51 wide 41;"
                + "coat c tall 50 wide 40;coat d tall 50 wide 51;coat e tall 50 wide 50;");
        int[] first = {50, 40, 3, -1, 5};
        int[] second = {51, 41, 0, -1, 2};
        for (int what = 0; what < 5; what++) {
            CHECK.due("man(0, " + what + ")", x.man(0, what), first[what]);
        }
        // b: c sits ill by 3 + 2, d by 10 + 2, e by 9 + 2; easy is 10
        second[4] = 1;
        for (int what = 0; what < 5; what++) {
            CHECK.due("man(1, " + what + ")", x.man(1, what), second[what]);
        }
        for (int what : new int[] {-1, 5, Integer.MIN_VALUE, Integer.MAX_VALUE}) {
            CHECK.due("man(0, " + what + ")", x.man(0, what), -2);
        }
        for (int man : new int[] {-1, 2, 6, Integer.MIN_VALUE, Integer.MAX_VALUE}) {
            CHECK.due("man(" + man + ", 0)", x.man(man, 0), -2);
            CHECK.due("man(" + man + ", 3)", x.man(man, 3), -2);
        }
        x.don(1, 2);
        CHECK.due("man(1, 3)", x.man(1, 3), 2);
        CHECK.due("man(0, 3)", x.man(0, 3), -1);
        x.day();
        CHECK.due("he has grown", x.man(0, 1), 43);
        CHECK.due("his tall stays", x.man(0, 0), 50);
        CHECK.due("he has not", x.man(1, 1), 41);
    }

    private static void coatParts() {
        TailorRegiment x = Check.regiment("man a tall 50 wide 40;coat c tall 50 wide 41 seam 7 worn 8;"
                + "coat d tall 49 wide 42;");
        int[] first = {50, 41, 7, 8, 0, -1};
        int[] second = {49, 42, 0, 0, 0, -1};
        for (int what = 0; what < 6; what++) {
            CHECK.due("coat(0, " + what + ")", x.coat(0, what), first[what]);
            CHECK.due("coat(1, " + what + ")", x.coat(1, what), second[what]);
        }
        for (int what : new int[] {-1, 6, Integer.MIN_VALUE, Integer.MAX_VALUE}) {
            CHECK.due("coat(0, " + what + ")", x.coat(0, what), -2);
        }
        for (int coat : new int[] {-1, 2, 6, Integer.MIN_VALUE, Integer.MAX_VALUE}) {
            CHECK.due("coat(" + coat + ", 0)", x.coat(coat, 0), -2);
            CHECK.due("coat(" + coat + ", 5)", x.coat(coat, 5), -2);
        }
        x.don(0, 1);
        CHECK.due("coat(1, 5)", x.coat(1, 5), 0);
        CHECK.due("coat(0, 5)", x.coat(0, 5), -1);
        x.turn(0);
        CHECK.due("coat(0, 4)", x.coat(0, 4), 1);
        CHECK.due("coat(1, 4)", x.coat(1, 4), 0);
    }

    private static void illUntold() {
        TailorRegiment x = Check.regiment("man a tall 50 wide 40;coat c tall 47 wide 36 worn 1;coat d tall 55 wide 49;"
                + "coat e tall 50 wide 40 worn 11;coat f tall 50 wide 40 worn 10;");
        CHECK.due("tight and short", x.misfit(0, 0), 4 * 3 + 3 * 2 + 1);
        CHECK.due("loose and long", x.misfit(0, 1), 9 + 5);
        CHECK.due("worn", x.misfit(0, 2), 11);
        CHECK.due("fits by no more than easy", x.man(0, 4), 8);
        CHECK.due("misfit(-1, 0)", x.misfit(-1, 0), -1);
        CHECK.due("misfit(1, 0)", x.misfit(1, 0), -1);
        CHECK.due("misfit(0, -1)", x.misfit(0, -1), -1);
        CHECK.due("misfit(0, 4)", x.misfit(0, 4), -1);
        CHECK.due("misfit(max, min)", x.misfit(Integer.MAX_VALUE, Integer.MIN_VALUE), -1);
    }

    private static void ill(String formula, int due) {
        TailorRegiment x = Check.regiment("ill " + formula + ";man a tall 50 wide 40;coat c tall 40 wide 33 worn 5;");
        CHECK.due("misfit by " + formula, x.misfit(0, 0), due);
    }

    private static void formulas() {
        ill("0", 0);
        ill("999", 999);
        ill("1000", 999);
        ill("1-2", 0);
        ill("7-2-3", 2);
        ill("2+3*4", 14);
        ill("(2+3)*4", 20);
        ill("100/7/3", 4);
        ill("100%30%7", 3);
        ill("100/7*7", 98);
        ill("50-7/2", 47);
        ill("10+(0-7)/2", 7);
        ill("10+(0-7)%4", 7);
        ill("7/0", 0);
        ill("7%0", 0);
        ill("3+7/(2-2)", 3);
        ill("1<2", 1);
        ill("2<2", 0);
        ill("2>1", 1);
        ill("2>2", 0);
        ill("2=2", 1);
        ill("2=3", 0);
        ill("5 and 7", 1);
        ill("5 and 0", 0);
        ill("0 or 9", 1);
        ill("0 or 0", 0);
        ill("not 5", 0);
        ill("not 0", 1);
        ill("not not 5", 1);
        ill("1 or 0 and 0", 1);
        ill("(1 or 0) and 0", 0);
        ill("not 0 and 0", 0);
        ill("not 1=2", 1);
        ill("not (1)=0", 1);
        ill("1+2=3", 1);
        ill("1<2+5", 1);
        ill("(1<2)+5", 6);
        ill("9 and 0-1", 1);
        ill("9999*9999*9999", 0);
        ill("(0-9999*9999*9999)%1000", 969);
        ill("9999*9999*43-4000", 999);
        ill("9999*9999*22/9999", 0);
        ill("8192*4096*64", 0);
        ill("8192*4096*64=0-8192*4096*64", 1);
        ill("8192*4096*64/(0-1)<0", 1);
        ill("8192*4096*64%(0-1)=0", 1);
        ill("8192*4096*64-1>0", 1);
    }

    private static void facts() {
        ill("tight", 7);
        ill("loose", 0);
        ill("short", 10);
        ill("long", 0);
        ill("worn", 5);
        ill("day", 0);
        TailorRegiment x = Check.regiment("ill tight*1000+loose*10+long+short*100-day;man a tall 40 wide 40;"
                + "coat c tall 43 wide 45;");
        CHECK.due("loose and long", x.misfit(0, 0), 53);
        x.day();
        x.day();
        CHECK.due("less by the day", x.misfit(0, 0), 51);
        TailorRegiment last = Check.regiment("ill day;");
        CHECK.due("no man", last.misfit(0, 0), -1);
        TailorRegiment told = Check.regiment("ill 6;easy 5;man a tall 0 wide 0;coat c tall 0 wide 0;");
        CHECK.due("told: 6 does not fit by 5", told.man(0, 4), 0);
        TailorRegiment even = Check.regiment("ill 5;easy 5;man a tall 0 wide 0;coat c tall 0 wide 0;");
        CHECK.due("told: 5 fits by 5", even.man(0, 4), 1);
    }
}
