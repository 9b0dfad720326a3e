import java.util.Arrays;

/** A regiment that its tailor commands; the document's promises say what each call answers. */
public final class TailorRegiment {
    public static final int NONE = -1;

    private static final int NO_SUCH = -2;
    private static final int NO_SEWING = -100;

    private static final int TEXT = 1600;
    private static final int MEN = 6;
    private static final int COATS = 6;
    /** As many sets as there are of six. */
    private static final int SETS = 64;
    private static final int UNITS = 30;
    private static final int BOXES = 3;
    private static final int ACTS = 40;

    private static final int MOST = 99;
    private static final int MOST_NUMBER = 999;
    private static final int LAST_DAY = 999;
    private static final int AHEAD = 60;
    private static final int ODDS_DAYS = 4;
    private static final int LATER = 1000;
    private static final int LAST_TIME = 100000;

    /** The parts of a man and of a coat are numbered as man() and coat() number them. */
    private static final int TALL_PART = 0;
    private static final int WIDE_PART = 1;
    private static final int GROWS_PART = 2;
    private static final int MAN_PARTS = 3;
    private static final int SEAM_PART = 2;
    private static final int WORN_PART = 3;
    private static final int TOLD_PARTS = 4;
    private static final int TURNED_PART = 4;
    private static final int COAT_PARTS = 5;

    /** What a token is; a sign is its own character, above these and below the words. */
    private static final int END = 0;
    private static final int WRONG = 1;
    private static final int NUMBER = 2;
    private static final int NAME = 3;
    private static final String SIGNS = ";()<>=+-*/%";

    /** The words that stand for themselves; their numbers go up from MAN in this order. */
    private static final String WORDS =
            "man coat ill easy bolt like rain draw tall wide grows seam or and not tight loose short long worn day ";
    private static final int MAN = 101;
    private static final int COAT = 102;
    private static final int ILL = 103;
    private static final int EASY = 104;
    private static final int BOLT = 105;
    private static final int LIKE = 106;
    private static final int RAIN = 107;
    private static final int DRAW = 108;
    private static final int TALL = 109;
    private static final int WIDE = 110;
    private static final int GROWS = 111;
    private static final int SEAM = 112;
    private static final int OR = 113;
    private static final int AND = 114;
    private static final int NOT = 115;
    private static final int TIGHT = 116;
    private static final int WORN = 120;
    private static final int DAY = 121;

    private final Tape tape;
    private final Reader reader;
    private final Roll roll;
    private final Company now;
    private final Memory memory;
    private final Fitting fitting;
    private final Cutting cutting;
    private final Choices choices;
    private final Sightings sightings;
    private int time;

    public TailorRegiment() {
        tape = new Tape();
        reader = new Reader(tape);
        roll = new Roll();
        now = new Company(roll);
        memory = new Memory(now);
        fitting = new Fitting(roll, now);
        cutting = new Cutting(roll, now);
        choices = new Choices(roll, now);
        sightings = new Sightings(roll);
    }

    public int feed(int a, int b, int c, int d, int e) {
        if (!tape.hasRoom()) {
            return NONE;
        }
        tape.append(a);
        tape.append(b);
        tape.append(c);
        tape.append(d);
        tape.append(e);
        return tape.size;
    }

    public int end(int n) {
        if (n < 0 || n > tape.size) {
            return NONE;
        }
        tape.size = n;
        return n;
    }

    public int regiment() {
        boolean told = reader.read();
        tape.size = 0;
        if (!told) {
            return NONE;
        }
        roll.copy(reader.draft);
        now.muster();
        memory.forgetAll();
        choices.clear();
        sightings.clear();
        return roll.men;
    }

    public int fault(int what) {
        return what == 0 ? reader.faultSort : what == 1 ? reader.faultPlace : NONE;
    }

    public int man(int man, int what) {
        if (!roll.hasMan(man)) {
            return NO_SUCH;
        }
        switch (what) {
            case 0:
                return roll.manPart(TALL_PART, man);
            case 1:
                return now.manWide(man);
            case 2:
                return roll.manPart(GROWS_PART, man);
            case 3:
                return now.wears(man);
            case 4:
                return now.fittingCoats(man);
            default:
                return NO_SUCH;
        }
    }

    public int coat(int coat, int what) {
        if (!roll.hasCoat(coat) || what < 0 || what > COAT_PARTS) {
            return NO_SUCH;
        }
        return what == COAT_PARTS ? now.wearer(coat) : now.part(what, coat);
    }

    public int misfit(int man, int coat) {
        return roll.hasMan(man) && roll.hasCoat(coat) ? now.illness(man, coat) : NONE;
    }

    public int day() {
        if (now.today() >= LAST_DAY) {
            return NONE;
        }
        int shed = now.passDay(roll.rain);
        memory.keepAct();
        return shed;
    }

    public int don(int man, int coat) {
        if (!roll.hasMan(man) || !roll.hasCoat(coat) || now.wearer(coat) != NONE) {
            return NO_SUCH;
        }
        int old = now.wears(man);
        now.setWears(man, coat);
        memory.keepAct();
        return old;
    }

    public int doff(int man) {
        int old = now.wears(man);
        if (old == NONE) {
            return NONE;
        }
        now.setWears(man, NONE);
        memory.keepAct();
        return old;
    }

    public int letout(int coat, int inches) {
        if (inches < 1 || inches > now.part(SEAM_PART, coat)) {
            return NONE;
        }
        return widen(coat, inches);
    }

    public int takein(int coat, int inches) {
        if (inches < 1 || inches > now.part(WIDE_PART, coat)) {
            return NONE;
        }
        return widen(coat, -inches);
    }

    private int widen(int coat, int inches) {
        int wide = now.part(WIDE_PART, coat) + inches;
        int seam = now.part(SEAM_PART, coat) - inches;
        if (wide > MOST || seam > MOST) {
            return NONE;
        }
        now.setPart(WIDE_PART, coat, wide);
        now.setPart(SEAM_PART, coat, seam);
        memory.keepAct();
        return wide;
    }

    public int hem(int coat, int inches) {
        int tall = now.part(TALL_PART, coat);
        if (inches < 1 || inches > tall) {
            return NONE;
        }
        now.setPart(TALL_PART, coat, tall - inches);
        memory.keepAct();
        return tall - inches;
    }

    public int turn(int coat) {
        if (!roll.hasCoat(coat) || now.part(TURNED_PART, coat) != 0) {
            return NONE;
        }
        int worn = now.part(WORN_PART, coat);
        now.setPart(WORN_PART, coat, 0);
        now.setPart(TURNED_PART, coat, 1);
        memory.keepAct();
        return worn;
    }

    public boolean undo() {
        return memory.stepBack();
    }

    public boolean redo() {
        return memory.stepOn();
    }

    public int will(int man, int n, int what) {
        if (!roll.hasMan(man) || n < 0 || n > AHEAD || what < 0 || what > 1) {
            return NO_SUCH;
        }
        return fitting.coatBehind(man, n, what == 1 ? roll.rain : 0);
    }

    public int out(int man) {
        return roll.hasMan(man) ? fitting.daysTillOut(man) : NONE;
    }

    public int fitted() {
        return now.fittedMen();
    }

    public int dress(int what) {
        choices.layDressing();
        return what == 0 ? choices.dressed : what == 1 ? choices.dressedIll : NONE;
    }

    public int sewing(int coat, int man, int what) {
        if (!roll.hasCoat(coat) || !roll.hasMan(man) || what < 0 || what > 2) {
            return NO_SEWING;
        }
        if (!fitting.findSewing(coat, man)) {
            return NO_SEWING;
        }
        if (what == 0) {
            return fitting.hemmed + Math.abs(fitting.takenIn);
        }
        return what == 1 ? fitting.hemmed : fitting.takenIn;
    }

    public int rota(int what) {
        if (roll.men == 0 || what < 0 || what > 1) {
            return NONE;
        }
        fitting.findRota();
        return what == 0 ? fitting.rotaStep : fitting.rotaFits;
    }

    public int change(int what) {
        if (what < 0 || what > 2 || !fitting.findChange()) {
            return NONE;
        }
        if (what == 0) {
            return fitting.changeOne;
        }
        return what == 1 ? fitting.changeOther : fitting.changeFits;
    }

    public int front(int n, int what) {
        if (n < 0 || n > MOST_NUMBER || what < 0 || what > 1) {
            return NONE;
        }
        int set = cutting.frontOf(n);
        return what == 1 || set == NONE ? set : Integer.bitCount(set);
    }

    public int wings(int what) {
        if (what < 0 || what > 1) {
            return NONE;
        }
        int left = cutting.leftWing();
        return what == 1 ? left : cutting.difference(left);
    }

    public int cloth() {
        return cutting.leastCloth();
    }

    public int buttons() {
        return choices.layColours();
    }

    public int reach(int man, int other) {
        choices.clear();
        if (man == other || !roll.hasMan(man) || !roll.hasMan(other)) {
            return NONE;
        }
        return choices.layRest(man, other);
    }

    public int turning() {
        return fitting.bestTurning();
    }

    public int rags() {
        int set = 0;
        for (int coat = 0; coat < roll.coats; coat++) {
            if (now.menFitting(coat) == 0) {
                set |= 1 << coat;
            }
        }
        return set;
    }

    public int naked() {
        int set = 0;
        for (int man = 0; man < roll.men; man++) {
            if (now.fittingCoats(man) == 0) {
                set |= 1 << man;
            }
        }
        return set;
    }

    public int popular(int coat) {
        return roll.hasCoat(coat) ? now.menFitting(coat) : NONE;
    }

    public int law(int n) {
        return n < 0 || n > MOST_NUMBER ? NONE : fitting.fittingBy(n);
    }

    public int ease() {
        return fitting.worstIllness();
    }

    public int breadth() {
        return cutting.wideTogether(now.wearers());
    }

    public int rout() {
        return fitting.daysTillRout();
    }

    public int odds(int n, int part) {
        if (n < 0 || n > ODDS_DAYS || part < 0 || part > 1) {
            return NONE;
        }
        int upper = 1;
        int lower = 1;
        for (int i = 0; i < n; i++) {
            upper *= 100 - roll.rain;
            lower *= 100;
        }
        int common = commonDivisor(lower, upper);
        if (common < 1) {
            return NONE;
        }
        return (part == 0 ? upper : lower) / common;
    }

    private static int commonDivisor(int greater, int lesser) {
        int a = greater;
        int b = lesser;
        for (int i = 0; i < 100 && b != 0; i++) {
            int rest = a % b;
            a = b;
            b = rest;
        }
        return a;
    }

    public int lies(int i) {
        return choices.lying(i);
    }

    public int seen(int days, boolean is) {
        if (roll.men == 0 || roll.coats == 0) {
            return NONE;
        }
        return sightings.tell(days, is, time);
    }

    public boolean untell(int seen) {
        return sightings.takeBack(seen, time);
    }

    public int later(int by) {
        if (by < 0 || by > LATER || time + by > LAST_TIME) {
            return NONE;
        }
        time += by;
        return time;
    }

    public int growths(int k) {
        return Integer.bitCount(sightings.growthsAt(k));
    }

    public int sure(int what, int k) {
        int set = sightings.growthsAt(k);
        if (set == 0 || what < 0 || what > 1) {
            return NONE;
        }
        return what == 0 ? Integer.numberOfTrailingZeros(set) : 31 - Integer.numberOfLeadingZeros(set);
    }

    public int ask(int what, int k) {
        int set = sightings.growthsAt(k);
        if (set == 0 || what < 0 || what > 1) {
            return NONE;
        }
        int days = sightings.bestQuestion(set);
        return what == 0 ? days : sightings.leftAtMost(set, days);
    }

    public int image(int box) {
        return memory.fillBox(box) ? now.today() : NONE;
    }

    public int back(int box) {
        return memory.takeBox(box) ? now.today() : NONE;
    }

    public int about(int what) {
        switch (what) {
            case 0:
                return roll.men;
            case 1:
                return roll.coats;
            case 2:
                return roll.easy;
            case 3:
                return roll.bolt;
            case 4:
                return roll.like;
            case 5:
                return now.today();
            case 6:
                return now.seed();
            case 7:
                return memory.done;
            case 8:
                return memory.undone;
            case 9:
                return sightings.count;
            case 10:
                return time;
            case 11:
                return tape.size;
            case 12:
                return roll.ill.units;
            case 13:
                return choices.count;
            default:
                return NONE;
        }
    }

    /** The bytes, and the TOKENS that are cut from them one behind the other. */
    private static final class Tape {
        private static final int FED = 20;
        private static final int LETTERS = 8;
        private static final int DIGITS = 4;

        private final byte[] bytes = new byte[TEXT];
        private int size;
        /** The latest token: what it is, its first byte, the first byte behind it, its value. */
        private int kind;
        private int place;
        private int behind;
        private int number;

        boolean hasRoom() {
            return size + FED <= TEXT;
        }

        void append(int four) {
            for (int shift = 24; shift >= 0 && size < TEXT; shift -= 8) {
                bytes[size] = (byte) (four >> shift);
                size++;
            }
        }

        void rewind() {
            behind = 0;
            advance();
        }

        void advance() {
            place = behind;
            while (place < size && (bytes[place] == ' ' || bytes[place] == '\n')) {
                place++;
            }
            behind = place;
            if (place >= size) {
                kind = END;
            } else if (isLetter(place)) {
                while (behind < size && isLetter(behind)) {
                    behind++;
                }
                kind = behind - place > LETTERS ? WRONG : wordKind();
            } else if (isDigit(place)) {
                number = 0;
                while (behind < size && isDigit(behind)) {
                    number = number * 10 + bytes[behind] - '0';
                    behind++;
                }
                kind = behind - place > DIGITS || isLetter(behind) ? WRONG : NUMBER;
            } else {
                behind++;
                kind = SIGNS.indexOf((char) (bytes[place] & 255)) >= 0 ? bytes[place] : WRONG;
            }
        }

        private boolean isLetter(int at) {
            return at >= 0 && at < size && bytes[at] >= 'a' && bytes[at] <= 'z';
        }

        private boolean isDigit(int at) {
            return at >= 0 && at < size && bytes[at] >= '0' && bytes[at] <= '9';
        }

        private int wordKind() {
            int word = MAN;
            int first = 0;
            boolean same = true;
            for (int i = 0; i < WORDS.length(); i++) {
                char letter = WORDS.charAt(i);
                int at = place + i - first;
                if (letter != ' ') {
                    same = same && at < behind && bytes[at] == letter;
                } else if (same && at == behind) {
                    return word;
                } else {
                    word++;
                    first = i + 1;
                    same = true;
                }
            }
            return NAME;
        }

        boolean sameWord(int one, int other) {
            for (int i = 0; i <= LETTERS; i++) {
                if (!isLetter(one + i) || !isLetter(other + i)) {
                    return isLetter(one + i) == isLetter(other + i);
                }
                if (bytes[one + i] != bytes[other + i]) {
                    return false;
                }
            }
            return true;
        }
    }

    /** Reads what is on the tape into a draft, up to the first FAULT. */
    private static final class Reader {
        private static final int NO_TOKEN = 1;
        private static final int MISPLACED = 2;
        private static final int TOLD_ALREADY = 3;
        private static final int NO_NUMBER = 4;

        /** How tightly what stands at a level is bound: or the least, units the most. */
        private static final int WHOLE = 0;
        private static final int BOTH = 1;
        private static final int ONE = 2;
        private static final int SUM = 3;
        private static final int TERM = 4;
        private static final int UNIT = 5;

        private static final int DEPTH = 7;

        private final Tape tape;
        private final Roll draft = new Roll();
        private final int[] manNames = new int[MEN];
        private final int[] coatNames = new int[COATS];
        /** The lines that may stand once and do, as bits. */
        private int told;
        private int faultSort;
        private int faultPlace = NONE;

        Reader(Tape tape) {
            this.tape = tape;
        }

        boolean read() {
            draft.clear();
            told = 0;
            faultSort = 0;
            faultPlace = NONE;
            tape.rewind();
            for (int lines = 0; lines < TEXT && tape.kind != END; lines++) {
                if (!line()) {
                    return false;
                }
            }
            return true;
        }

        private boolean line() {
            switch (tape.kind) {
                case MAN:
                    return manLine() && closing();
                case COAT:
                    return coatLine() && closing();
                case ILL:
                    return opened(ILL) && expression(WHOLE, 0) && closing();
                case EASY:
                case BOLT:
                case DRAW:
                    return settingLine(MOST_NUMBER) && closing();
                case LIKE:
                    return settingLine(MOST) && closing();
                case RAIN:
                    return settingLine(100) && closing();
                default:
                    return refuse();
            }
        }

        private boolean refuse() {
            return refuseAs(tape.kind == WRONG ? NO_TOKEN : MISPLACED);
        }

        private boolean refuseAs(int sort) {
            faultSort = sort;
            faultPlace = tape.place;
            return false;
        }

        private boolean closing() {
            return taken(';');
        }

        private boolean taken(int kind) {
            if (tape.kind != kind) {
                return refuse();
            }
            tape.advance();
            return true;
        }

        private boolean manLine() {
            if (draft.men >= MEN) {
                return refuse();
            }
            tape.advance();
            if (!name(manNames, draft.men)) {
                return false;
            }
            int tall = labelled(TALL, MOST);
            int wide = tall < 0 ? NONE : labelled(WIDE, MOST);
            int grows = wide < 0 ? NONE : tape.kind == GROWS ? labelled(GROWS, 9) : 0;
            if (grows < 0) {
                return false;
            }
            draft.addMan(tall, wide, grows);
            return true;
        }

        private boolean coatLine() {
            if (draft.coats >= COATS) {
                return refuse();
            }
            tape.advance();
            if (!name(coatNames, draft.coats)) {
                return false;
            }
            int tall = labelled(TALL, MOST);
            int wide = tall < 0 ? NONE : labelled(WIDE, MOST);
            int seam = wide < 0 ? NONE : tape.kind == SEAM ? labelled(SEAM, 20) : 0;
            int worn = seam < 0 ? NONE : tape.kind == WORN ? labelled(WORN, MOST) : 0;
            if (worn < 0) {
                return false;
            }
            draft.addCoat(tall, wide, seam, worn);
            return true;
        }

        private boolean name(int[] places, int count) {
            if (tape.kind != NAME) {
                return refuse();
            }
            for (int i = 0; i < count && i < places.length; i++) {
                if (tape.sameWord(places[i], tape.place)) {
                    return refuseAs(TOLD_ALREADY);
                }
            }
            if (count >= 0 && count < places.length) {
                places[count] = tape.place;
            }
            tape.advance();
            return true;
        }

        /** A word with its number; NONE behind a fault. */
        private int labelled(int word, int most) {
            if (tape.kind != word) {
                refuse();
                return NONE;
            }
            tape.advance();
            return numbered(most);
        }

        private int numbered(int most) {
            int number = tape.number;
            if (tape.kind != NUMBER) {
                refuse();
                return NONE;
            }
            if (number > most) {
                refuseAs(NO_NUMBER);
                return NONE;
            }
            tape.advance();
            return number;
        }

        /** Goes on behind the first word of a line that may stand once. */
        private boolean opened(int word) {
            int bit = 1 << (word - ILL);
            if ((told & bit) != 0) {
                return refuse();
            }
            told |= bit;
            tape.advance();
            return true;
        }

        private boolean settingLine(int most) {
            int word = tape.kind;
            int number = opened(word) ? numbered(most) : NONE;
            if (number < 0) {
                return false;
            }
            draft.set(word, number);
            return true;
        }

        /** What stands at a level, within so many others; operands come before their signs. */
        private boolean expression(int level, int within) {
            if (level >= UNIT) {
                return unit(within);
            }
            if (level == ONE && tape.kind == NOT) {
                return negation(within);
            }
            if (!expression(level + 1, within)) {
                return false;
            }
            int most = level == ONE ? 1 : TEXT;
            for (int i = 0; i < most && joins(level, tape.kind); i++) {
                int sign = tape.kind;
                tape.advance();
                if (!expression(level + 1, within)) {
                    return false;
                }
                draft.ill.add(sign, 0);
            }
            return true;
        }

        private static boolean joins(int level, int kind) {
            switch (level) {
                case WHOLE:
                    return kind == OR;
                case BOTH:
                    return kind == AND;
                case ONE:
                    return kind == '<' || kind == '>' || kind == '=';
                case SUM:
                    return kind == '+' || kind == '-';
                case TERM:
                    return kind == '*' || kind == '/' || kind == '%';
                default:
                    return false;
            }
        }

        private boolean negation(int within) {
            if (within >= DEPTH) {
                return refuse();
            }
            tape.advance();
            if (!expression(ONE, within + 1)) {
                return false;
            }
            draft.ill.add(NOT, 0);
            return true;
        }

        private boolean unit(int within) {
            int kind = tape.kind;
            boolean simple = kind == NUMBER || kind >= TIGHT && kind <= DAY;
            if (!simple && kind != '(' || draft.ill.units >= UNITS) {
                return refuse();
            }
            if (simple) {
                draft.ill.add(kind, tape.number);
                draft.ill.units++;
                tape.advance();
                return true;
            }
            if (within >= DEPTH) {
                return refuse();
            }
            draft.ill.units++;
            tape.advance();
            return expression(WHOLE, within + 1) && taken(')');
        }
    }

    /** How ill a coat sits: the steps of a formula, operands before their signs. */
    private static final class Formula {
        /** 30 units, 29 signs between them and seven times not before each are 269. */
        private static final int STEPS = 300;
        private static final int FACTS = 6;

        private final int[] kinds = new int[STEPS];
        private final int[] numbers = new int[STEPS];
        private final int[] stack = new int[UNITS];
        private final int[] facts = new int[FACTS];
        private int steps;
        private int units;

        void clear() {
            steps = 0;
            units = 0;
        }

        void copy(Formula other) {
            System.arraycopy(other.kinds, 0, kinds, 0, STEPS);
            System.arraycopy(other.numbers, 0, numbers, 0, STEPS);
            steps = other.steps;
            units = other.units;
        }

        void add(int kind, int number) {
            if (steps < STEPS) {
                kinds[steps] = kind;
                numbers[steps] = number;
                steps++;
            }
        }

        int worth(int manTall, int manWide, int coatTall, int coatWide, int worn, int day) {
            facts[0] = Math.max(0, manWide - coatWide);
            facts[1] = Math.max(0, coatWide - manWide);
            facts[2] = Math.max(0, manTall - coatTall);
            facts[3] = Math.max(0, coatTall - manTall);
            facts[4] = worn;
            facts[5] = day;
            if (steps == 0) {
                return Math.min(MOST_NUMBER, facts[0] * 3 + facts[1] + facts[2] * 2 + facts[3] + worn);
            }
            int top = 0;
            for (int i = 0; i < steps && i < STEPS; i++) {
                int kind = kinds[i];
                if (kind == NUMBER || kind >= TIGHT && kind < TIGHT + FACTS) {
                    if (top < UNITS) {
                        stack[top] = kind == NUMBER ? numbers[i] : facts[kind - TIGHT];
                        top++;
                    }
                } else if (kind == NOT && top >= 1) {
                    stack[top - 1] = stack[top - 1] == 0 ? 1 : 0;
                } else if (top >= 2) {
                    stack[top - 2] = joined(kind, stack[top - 2], stack[top - 1]);
                    top--;
                }
            }
            return Math.max(0, Math.min(MOST_NUMBER, stack[0]));
        }

        private static int joined(int sign, int a, int b) {
            switch (sign) {
                case '+':
                    return a + b;
                case '-':
                    return a - b;
                case '*':
                    return a * b;
                case '/':
                    return b == 0 ? 0 : a / b;
                case '%':
                    return b == 0 ? 0 : a % b;
                case '<':
                    return a < b ? 1 : 0;
                case '>':
                    return a > b ? 1 : 0;
                case '=':
                    return a == b ? 1 : 0;
                case AND:
                    return a != 0 && b != 0 ? 1 : 0;
                case OR:
                    return a != 0 || b != 0 ? 1 : 0;
                default:
                    return 0;
            }
        }
    }

    /** A regiment as it was told. */
    private static final class Roll {
        private final int[] manParts = new int[MAN_PARTS * MEN];
        private final int[] coatParts = new int[TOLD_PARTS * COATS];
        private final Formula ill = new Formula();
        private int men;
        private int coats;
        private int easy;
        private int bolt;
        private int like;
        private int rain;
        private int draw;

        Roll() {
            setDefaults();
        }

        void clear() {
            men = 0;
            coats = 0;
            ill.clear();
            setDefaults();
        }

        private void setDefaults() {
            easy = 10;
            bolt = 150;
            like = 2;
            rain = 0;
            draw = 0;
        }

        void copy(Roll other) {
            System.arraycopy(other.manParts, 0, manParts, 0, manParts.length);
            System.arraycopy(other.coatParts, 0, coatParts, 0, coatParts.length);
            ill.copy(other.ill);
            men = other.men;
            coats = other.coats;
            easy = other.easy;
            bolt = other.bolt;
            like = other.like;
            rain = other.rain;
            draw = other.draw;
        }

        void addMan(int tall, int wide, int grows) {
            if (men < MEN) {
                manParts[TALL_PART * MEN + men] = tall;
                manParts[WIDE_PART * MEN + men] = wide;
                manParts[GROWS_PART * MEN + men] = grows;
                men++;
            }
        }

        void addCoat(int tall, int wide, int seam, int worn) {
            if (coats < COATS) {
                coatParts[TALL_PART * COATS + coats] = tall;
                coatParts[WIDE_PART * COATS + coats] = wide;
                coatParts[SEAM_PART * COATS + coats] = seam;
                coatParts[WORN_PART * COATS + coats] = worn;
                coats++;
            }
        }

        void set(int word, int number) {
            switch (word) {
                case EASY:
                    easy = number;
                    break;
                case BOLT:
                    bolt = number;
                    break;
                case LIKE:
                    like = number;
                    break;
                case RAIN:
                    rain = number;
                    break;
                default:
                    draw = number;
                    break;
            }
        }

        boolean hasMan(int man) {
            return man >= 0 && man < men;
        }

        boolean hasCoat(int coat) {
            return coat >= 0 && coat < coats;
        }

        int manPart(int part, int man) {
            return hasMan(man) && part >= 0 && part < MAN_PARTS ? manParts[part * MEN + man] : 0;
        }

        int coatPart(int part, int coat) {
            return hasCoat(coat) && part >= 0 && part < TOLD_PARTS ? coatParts[part * COATS + coat] : 0;
        }
    }

    /** All that acts change, in one row so that keeping it is one copy. */
    private static final class Company {
        private static final int WEARS_AT = MEN;
        private static final int PARTS_AT = 2 * MEN;
        private static final int DAY_AT = PARTS_AT + COAT_PARTS * COATS;
        private static final int SEED_AT = DAY_AT + 1;
        private static final int CELLS = SEED_AT + 1;

        private final Roll roll;
        private final int[] cells = new int[CELLS];

        Company(Roll roll) {
            this.roll = roll;
            muster();
        }

        void muster() {
            for (int man = 0; man < MEN; man++) {
                cells[man] = roll.manPart(WIDE_PART, man);
                cells[WEARS_AT + man] = NONE;
            }
            for (int coat = 0; coat < COATS; coat++) {
                for (int part = 0; part < COAT_PARTS; part++) {
                    cells[PARTS_AT + part * COATS + coat] = roll.coatPart(part, coat);
                }
            }
            cells[DAY_AT] = 0;
            cells[SEED_AT] = roll.draw;
        }

        void copy(Company other) {
            System.arraycopy(other.cells, 0, cells, 0, CELLS);
        }

        void saveTo(int[] rows, int row) {
            if (row >= 0 && row < rows.length / CELLS) {
                System.arraycopy(cells, 0, rows, row * CELLS, CELLS);
            }
        }

        void loadFrom(int[] rows, int row) {
            if (row >= 0 && row < rows.length / CELLS) {
                System.arraycopy(rows, row * CELLS, cells, 0, CELLS);
            }
        }

        int today() {
            return cells[DAY_AT];
        }

        int seed() {
            return cells[SEED_AT];
        }

        int manWide(int man) {
            return roll.hasMan(man) ? cells[man] : 0;
        }

        int wears(int man) {
            return roll.hasMan(man) ? cells[WEARS_AT + man] : NONE;
        }

        void setWears(int man, int coat) {
            if (roll.hasMan(man)) {
                cells[WEARS_AT + man] = coat;
            }
        }

        int part(int part, int coat) {
            boolean is = roll.hasCoat(coat) && part >= 0 && part < COAT_PARTS;
            return is ? cells[PARTS_AT + part * COATS + coat] : 0;
        }

        void setPart(int part, int coat, int value) {
            if (roll.hasCoat(coat) && part >= 0 && part < COAT_PARTS) {
                cells[PARTS_AT + part * COATS + coat] = value;
            }
        }

        int wearer(int coat) {
            for (int man = 0; man < roll.men; man++) {
                if (wears(man) == coat) {
                    return man;
                }
            }
            return NONE;
        }

        int wearers() {
            int set = 0;
            for (int man = 0; man < roll.men; man++) {
                if (wears(man) != NONE) {
                    set |= 1 << man;
                }
            }
            return set;
        }

        int illness(int man, int coat) {
            return roll.ill.worth(roll.manPart(TALL_PART, man), manWide(man),
                    part(TALL_PART, coat), part(WIDE_PART, coat), part(WORN_PART, coat), today());
        }

        boolean fits(int man, int coat) {
            return roll.hasMan(man) && roll.hasCoat(coat) && illness(man, coat) <= roll.easy;
        }

        int fittingCoats(int man) {
            int set = 0;
            for (int coat = 0; coat < roll.coats; coat++) {
                if (fits(man, coat)) {
                    set |= 1 << coat;
                }
            }
            return set;
        }

        int menFitting(int coat) {
            int count = 0;
            for (int man = 0; man < roll.men; man++) {
                if (fits(man, coat)) {
                    count++;
                }
            }
            return count;
        }

        int fittedMen() {
            int set = 0;
            for (int man = 0; man < roll.men; man++) {
                if (fits(man, wears(man))) {
                    set |= 1 << man;
                }
            }
            return set;
        }

        /** A DAY with so much rain of 100: who took his coat off. */
        int passDay(int rain) {
            for (int man = 0; man < roll.men; man++) {
                cells[man] = Math.min(MOST, cells[man] + roll.manPart(GROWS_PART, man));
            }
            cells[SEED_AT] = (cells[SEED_AT] * 137 + 71) % 1000;
            int shrunk = cells[SEED_AT] % 100 < rain ? 1 : 0;
            for (int man = 0; man < roll.men; man++) {
                weather(wears(man), shrunk);
            }
            cells[DAY_AT]++;
            int shed = 0;
            for (int man = 0; man < roll.men; man++) {
                if (wears(man) != NONE && !fits(man, wears(man))) {
                    setWears(man, NONE);
                    shed |= 1 << man;
                }
            }
            return shed;
        }

        private void weather(int coat, int shrunk) {
            setPart(WORN_PART, coat, Math.min(MOST, part(WORN_PART, coat) + 1));
            setPart(WIDE_PART, coat, Math.max(0, part(WIDE_PART, coat) - shrunk));
            setPart(TALL_PART, coat, Math.max(0, part(TALL_PART, coat) - shrunk));
        }
    }

    /** What was, act by act, and the boxes. */
    private static final class Memory {
        private static final int ROWS = ACTS + 1;

        private final Company now;
        /** A ring: from the row first on, what was before each act, and what is behind the last. */
        private final int[] rows = new int[ROWS * Company.CELLS];
        private final int[] boxes = new int[BOXES * Company.CELLS];
        private int filled;
        private int first;
        private int done;
        private int undone;

        Memory(Company now) {
            this.now = now;
            now.saveTo(rows, 0);
        }

        void forgetAll() {
            filled = 0;
            forgetActs();
        }

        private void forgetActs() {
            first = 0;
            done = 0;
            undone = 0;
            now.saveTo(rows, 0);
        }

        void keepAct() {
            undone = 0;
            if (done < ACTS) {
                done++;
            } else {
                first = (first + 1) % ROWS;
            }
            now.saveTo(rows, (first + done) % ROWS);
        }

        boolean stepBack() {
            if (done == 0) {
                return false;
            }
            done--;
            undone++;
            now.loadFrom(rows, (first + done) % ROWS);
            return true;
        }

        boolean stepOn() {
            if (undone == 0) {
                return false;
            }
            done++;
            undone--;
            now.loadFrom(rows, (first + done) % ROWS);
            return true;
        }

        boolean fillBox(int box) {
            if (box < 0 || box >= BOXES) {
                return false;
            }
            now.saveTo(boxes, box);
            filled |= 1 << box;
            return true;
        }

        boolean takeBox(int box) {
            if (box < 0 || box >= BOXES || (filled >> box & 1) == 0) {
                return false;
            }
            now.loadFrom(boxes, box);
            forgetActs();
            return true;
        }
    }

    /** Questions of who fits his coat, or would. */
    private static final class Fitting {
        private static final int SEWN = 20;

        private final Roll roll;
        private final Company now;
        private final Company ahead;
        /** What the latest find.. found. */
        private int hemmed;
        private int takenIn;
        private int rotaStep;
        private int rotaFits;
        private int changeOne;
        private int changeOther;
        private int changeFits;

        Fitting(Roll roll, Company now) {
            this.roll = roll;
            this.now = now;
            ahead = new Company(roll);
        }

        int coatBehind(int man, int days, int rain) {
            ahead.copy(now);
            for (int i = 0; i < days; i++) {
                ahead.passDay(rain);
            }
            return ahead.wears(man);
        }

        int daysTillOut(int man) {
            ahead.copy(now);
            for (int days = 0; days <= AHEAD; days++) {
                if (ahead.wears(man) == NONE) {
                    return days;
                }
                ahead.passDay(0);
            }
            return NONE;
        }

        int daysTillRout() {
            ahead.copy(now);
            for (int days = 0; days <= AHEAD; days++) {
                if (ahead.wearers() == 0) {
                    return days;
                }
                ahead.passDay(0);
            }
            return NONE;
        }

        /** Goes from the least inches on, so that the first that fits is the one. */
        boolean findSewing(int coat, int man) {
            for (int inches = 0; inches <= 2 * SEWN; inches++) {
                for (int hem = Math.max(0, inches - SEWN); hem <= inches && hem <= SEWN; hem++) {
                    int side = inches - hem;
                    if (sewnFits(coat, man, hem, side) || sewnFits(coat, man, hem, -side)) {
                        return true;
                    }
                }
            }
            return false;
        }

        private boolean sewnFits(int coat, int man, int hem, int in) {
            int tall = now.part(TALL_PART, coat) - hem;
            int wide = now.part(WIDE_PART, coat) - in;
            if (tall < 0 || wide < 0 || wide > MOST || -in > now.part(SEAM_PART, coat)) {
                return false;
            }
            hemmed = hem;
            takenIn = in;
            return roll.ill.worth(roll.manPart(TALL_PART, man), now.manWide(man),
                    tall, wide, now.part(WORN_PART, coat), now.today()) <= roll.easy;
        }

        void findRota() {
            rotaStep = 0;
            rotaFits = NONE;
            for (int k = 0; k < roll.men; k++) {
                int fits = rotaCount(k);
                if (fits > rotaFits) {
                    rotaStep = k;
                    rotaFits = fits;
                }
            }
        }

        private int rotaCount(int k) {
            int count = 0;
            for (int man = 0; man < roll.men; man++) {
                int giver = man + k < roll.men ? man + k : man + k - roll.men;
                if (now.fits(man, now.wears(giver))) {
                    count++;
                }
            }
            return count;
        }

        boolean findChange() {
            int least = Integer.bitCount(now.fittedMen());
            changeFits = least;
            for (int one = 0; one < roll.men; one++) {
                for (int other = one + 1; other < roll.men; other++) {
                    int fits = changedCount(one, other);
                    if (fits > changeFits) {
                        changeOne = one;
                        changeOther = other;
                        changeFits = fits;
                    }
                }
            }
            return changeFits > least;
        }

        private int changedCount(int one, int other) {
            int count = 0;
            for (int man = 0; man < roll.men; man++) {
                int giver = man == one ? other : man == other ? one : man;
                if (now.fits(man, now.wears(giver))) {
                    count++;
                }
            }
            return count;
        }

        int bestTurning() {
            int best = NONE;
            int most = NONE;
            for (int coat = 0; coat < roll.coats; coat++) {
                ahead.copy(now);
                ahead.setPart(WORN_PART, coat, 0);
                int fits = Integer.bitCount(ahead.fittedMen());
                if (now.part(TURNED_PART, coat) == 0 && fits > most) {
                    best = coat;
                    most = fits;
                }
            }
            return best;
        }

        int fittingBy(int easy) {
            int count = 0;
            for (int man = 0; man < roll.men; man++) {
                int coat = now.wears(man);
                if (coat != NONE && now.illness(man, coat) <= easy) {
                    count++;
                }
            }
            return count;
        }

        int worstIllness() {
            int worst = 0;
            for (int man = 0; man < roll.men; man++) {
                int coat = now.wears(man);
                if (coat != NONE) {
                    worst = Math.max(worst, now.illness(man, coat));
                }
            }
            return worst;
        }
    }

    /** Questions of how wide and long sets are; sets are bits, so the least set comes first. */
    private static final class Cutting {
        /** More than six coats can be tall together. */
        private static final int TOO_LONG = 1000;

        private final Roll roll;
        private final Company now;
        /** The least length for each set of coats. */
        private final int[] lengths = new int[SETS];

        Cutting(Roll roll, Company now) {
            this.roll = roll;
            this.now = now;
        }

        int wideTogether(int men) {
            int wide = 0;
            for (int man = 0; man < roll.men; man++) {
                if ((men >> man & 1) != 0) {
                    wide += now.part(WIDE_PART, now.wears(man));
                }
            }
            return wide;
        }

        int frontOf(int n) {
            int best = NONE;
            int others = ~now.wearers();
            for (int set = 0; set < SETS; set++) {
                boolean fewer = best == NONE || Integer.bitCount(set) < Integer.bitCount(best);
                if ((set & others) == 0 && fewer && wideTogether(set) >= n) {
                    best = set;
                }
            }
            return best;
        }

        int leftWing() {
            int all = now.wearers();
            int first = Integer.lowestOneBit(all);
            int best = all;
            for (int set = 0; set < SETS; set++) {
                boolean parts = (set & ~all) == 0 && (set & first) == first;
                if (parts && isEvener(set, best)) {
                    best = set;
                }
            }
            return best;
        }

        private boolean isEvener(int set, int best) {
            int less = difference(set) - difference(best);
            return less < 0 || less == 0 && set < best;
        }

        int difference(int left) {
            return Math.abs(wideTogether(now.wearers()) - 2 * wideTogether(left));
        }

        int leastCloth() {
            int all = (1 << roll.coats) - 1;
            for (int coat = 0; coat < roll.coats; coat++) {
                if (now.part(WIDE_PART, coat) > roll.bolt) {
                    return NONE;
                }
            }
            lengths[0] = 0;
            for (int set = 1; set <= all && set < SETS; set++) {
                lengths[set] = leastLength(set);
            }
            return all >= 0 && all < SETS ? lengths[all] : NONE;
        }

        /** The first coat's row may be any: what is left beside it was reckoned before. */
        private int leastLength(int set) {
            int least = TOO_LONG;
            int first = Integer.lowestOneBit(set);
            for (int row = first; row <= set; row++) {
                if ((row & ~set) == 0 && (row & first) != 0) {
                    int length = rowLength(row);
                    if (length != NONE) {
                        least = Math.min(least, length + lengths[set & ~row & SETS - 1]);
                    }
                }
            }
            return least;
        }

        private int rowLength(int row) {
            int wide = 0;
            int tallest = 0;
            for (int coat = 0; coat < roll.coats; coat++) {
                if ((row >> coat & 1) != 0) {
                    wide += now.part(WIDE_PART, coat);
                    tallest = Math.max(tallest, now.part(TALL_PART, coat));
                }
            }
            return wide > roll.bolt ? NONE : tallest;
        }
    }

    /** DRESS, BUTTONS and REACH, and what they lay down. */
    private static final class Choices {
        /** More than all can sit ill together, so that one man more outweighs it. */
        private static final int ONE_MORE = 10000;
        private static final int WITHOUT = 1000;

        private final Roll roll;
        private final Company now;
        private final int[] row = new int[MEN];
        private int count;
        /** For each man and set of coats given away, the best of him and those behind him. */
        private final int[] best = new int[(MEN + 1) * SETS];
        private final int[] gains = new int[MEN * COATS];
        private int dressed;
        private int dressedIll;

        Choices(Roll roll, Company now) {
            this.roll = roll;
            this.now = now;
        }

        void clear() {
            count = 0;
        }

        int lying(int i) {
            return i >= 0 && i < count && i < row.length ? row[i] : NO_SUCH;
        }

        private void lay(int number) {
            if (count < row.length) {
                row[count] = number;
                count++;
            }
        }

        void layDressing() {
            reckonGains();
            reckonBest();
            clear();
            dressed = 0;
            dressedIll = 0;
            int given = 0;
            for (int man = 0; man < roll.men; man++) {
                int coat = firstBest(man, given);
                lay(coat);
                if (coat != NONE) {
                    given |= 1 << coat;
                    dressed++;
                    dressedIll += now.illness(man, coat);
                }
            }
        }

        private void reckonGains() {
            for (int man = 0; man < roll.men; man++) {
                for (int coat = 0; coat < roll.coats; coat++) {
                    int ill = now.illness(man, coat);
                    gains[man * COATS + coat] = ill <= roll.easy ? ONE_MORE - ill : NONE;
                }
            }
        }

        private void reckonBest() {
            Arrays.fill(best, 0);
            for (int man = roll.men - 1; man >= 0; man--) {
                for (int given = 0; given < SETS; given++) {
                    int most = best[(man + 1) * SETS + given];
                    for (int coat = 0; coat < roll.coats; coat++) {
                        most = Math.max(most, worthOf(man, coat, given));
                    }
                    best[man * SETS + given] = most;
                }
            }
        }

        /** NONE, which is below all worths, if he can't have it. */
        private int worthOf(int man, int coat, int given) {
            int gain = gains[man * COATS + coat];
            if (gain == NONE || (given >> coat & 1) != 0) {
                return NONE;
            }
            return gain + best[(man + 1) * SETS + (given | 1 << coat)];
        }

        private int firstBest(int man, int given) {
            for (int coat = 0; coat < roll.coats; coat++) {
                if (worthOf(man, coat, given) == best[man * SETS + given]) {
                    return coat;
                }
            }
            return NONE;
        }

        int layColours() {
            clear();
            for (int colours = 0; colours <= roll.men; colours++) {
                if (painted(0, colours)) {
                    return colours;
                }
            }
            return roll.men;
        }

        /** Whether so many colours do for this man and those behind him; they lie there then. */
        private boolean painted(int man, int colours) {
            if (man >= roll.men || man >= MEN) {
                return true;
            }
            for (int colour = 0; colour < colours; colour++) {
                if (isClear(man, colour)) {
                    count = man;
                    lay(colour);
                    if (painted(man + 1, colours)) {
                        return true;
                    }
                }
            }
            return false;
        }

        private boolean isClear(int man, int colour) {
            int tall = roll.manPart(TALL_PART, man);
            for (int before = 0; before < man && before < row.length; before++) {
                int apart = Math.abs(tall - roll.manPart(TALL_PART, before));
                if (row[before] == colour && apart <= roll.like) {
                    return false;
                }
            }
            return true;
        }

        int layRest(int man, int other) {
            int rests = 0;
            boolean free = false;
            for (int one = 0; one < roll.coats; one++) {
                for (int two = 0; two < roll.coats; two++) {
                    boolean can = isFree(one) && isFree(two);
                    free |= can;
                    if (can && isContent(man, one, two) && isContent(other, two, one)) {
                        rests++;
                        if (rests == 1) {
                            lay(one);
                            lay(two);
                        }
                    }
                }
            }
            return free ? rests : NONE;
        }

        private boolean isFree(int coat) {
            return now.wearer(coat) == NONE;
        }

        /** Whether no other coat would sit less ill on him, while the other man's stays. */
        private boolean isContent(int man, int his, int others) {
            int ill = illGetting(man, his, others);
            for (int coat = 0; coat < roll.coats; coat++) {
                if (isFree(coat) && illGetting(man, coat, others) < ill) {
                    return false;
                }
            }
            return true;
        }

        private int illGetting(int man, int his, int others) {
            return his == others ? WITHOUT : now.illness(man, his);
        }
    }

    /** What was SEEN of the first man in the first coat; growths are bits. */
    private static final class Sightings {
        private static final int LIMIT = 30;
        private static final int LAST = 20;
        private static final int MOST_GROWTH = 30;
        private static final int ALL_GROWTHS = 0x7fffffff;
        private static final int NEVER = -1;
        private static final int UNKNOWN = -1;

        private final Roll roll;
        private final int[] days = new int[LIMIT];
        private final boolean[] fitted = new boolean[LIMIT];
        private final int[] toldAt = new int[LIMIT];
        private final int[] untoldAt = new int[LIMIT];
        private int count;
        /** For each number of days the growths by which the coat still fits, once reckoned. */
        private final int[] fitting = new int[LAST + 1];

        Sightings(Roll roll) {
            this.roll = roll;
            Arrays.fill(fitting, UNKNOWN);
        }

        void clear() {
            count = 0;
            Arrays.fill(fitting, UNKNOWN);
        }

        int tell(int behind, boolean did, int time) {
            if (behind < 0 || behind > LAST || count >= LIMIT) {
                return NONE;
            }
            days[count] = behind;
            fitted[count] = did;
            toldAt[count] = time;
            untoldAt[count] = NEVER;
            count++;
            return count - 1;
        }

        boolean takeBack(int seen, int time) {
            if (seen < 0 || seen >= count || seen >= LIMIT || untoldAt[seen] != NEVER) {
                return false;
            }
            untoldAt[seen] = time;
            return true;
        }

        int growthsAt(int k) {
            if (roll.men == 0 || roll.coats == 0) {
                return 0;
            }
            int set = ALL_GROWTHS;
            for (int i = 0; i < count && i < LIMIT; i++) {
                boolean untold = untoldAt[i] != NEVER && untoldAt[i] <= k;
                if (toldAt[i] <= k && !untold) {
                    int fit = fittingBehind(days[i]);
                    set &= fitted[i] ? fit : ~fit;
                }
            }
            return set;
        }

        private int fittingBehind(int behind) {
            if (behind < 0 || behind > LAST) {
                return 0;
            }
            if (fitting[behind] == UNKNOWN) {
                int set = 0;
                for (int growth = 0; growth <= MOST_GROWTH; growth++) {
                    if (fitsGrown(growth, behind)) {
                        set |= 1 << growth;
                    }
                }
                fitting[behind] = set;
            }
            return fitting[behind];
        }

        private boolean fitsGrown(int growth, int behind) {
            int wide = Math.min(MOST, roll.manPart(WIDE_PART, 0) + growth * behind);
            int worn = Math.min(MOST, roll.coatPart(WORN_PART, 0) + behind);
            return roll.ill.worth(roll.manPart(TALL_PART, 0), wide, roll.coatPart(TALL_PART, 0),
                    roll.coatPart(WIDE_PART, 0), worn, behind) <= roll.easy;
        }

        int bestQuestion(int growths) {
            int best = 0;
            for (int behind = 1; behind <= LAST; behind++) {
                if (leftAtMost(growths, behind) < leftAtMost(growths, best)) {
                    best = behind;
                }
            }
            return best;
        }

        int leftAtMost(int growths, int behind) {
            int fit = fittingBehind(behind);
            return Math.max(Integer.bitCount(growths & fit), Integer.bitCount(growths & ~fit));
        }
    }
}
