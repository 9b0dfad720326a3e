import java.util.ArrayList;
import java.util.Arrays;
import java.util.HashSet;
import java.util.List;
import java.util.Set;

/** The document said again in the most naive way, for ModelTest to compare with. */
public final class Model {
    private static final class Wrong extends RuntimeException {
        private static final long serialVersionUID = 1L;
        final int sort;
        final int place;

        Wrong(int sort, int place) {
            this.sort = sort;
            this.place = place;
        }
    }

    private interface Node {
        int value(int[] facts);
    }

    private static final class Man {
        String name;
        int tall;
        int wide;
        int grows;
    }

    private static final class Coat {
        String name;
        int tall;
        int wide;
        int seam;
        int worn;
        boolean turned;
        int wearer = -1;

        Coat copy() {
            Coat c = new Coat();
            c.name = name;
            c.tall = tall;
            c.wide = wide;
            c.seam = seam;
            c.worn = worn;
            c.turned = turned;
            c.wearer = wearer;
            return c;
        }
    }

    private static final class Told {
        final List<Man> men = new ArrayList<>();
        final List<Coat> coats = new ArrayList<>();
        Node ill;
        int units;
        int easy = 10;
        int bolt = 150;
        int like = 2;
        int rain;
        int draw;
    }

    private static final class State {
        int[] wide = new int[0];
        final List<Coat> coats = new ArrayList<>();
        int day;
        int seed;

        State copy() {
            State s = new State();
            s.wide = wide.clone();
            for (Coat c : coats) {
                s.coats.add(c.copy());
            }
            s.day = day;
            s.seed = seed;
            return s;
        }

        int coatOf(int man) {
            for (int c = 0; c < coats.size(); c++) {
                if (coats.get(c).wearer == man) {
                    return c;
                }
            }
            return -1;
        }
    }

    private static final class Seen {
        int days;
        boolean is;
        int told;
        Integer untold;
    }

    /** Tokens as texts with their places, then the grammar rule by rule. */
    private static final class Parser {
        static final Set<String> WORDS = Set.of("man", "tall", "wide", "grows", "coat", "seam", "worn", "ill", "easy",
                "bolt", "like", "rain", "draw", "or", "and", "not", "tight", "loose", "short", "long", "day");
        static final List<String> FACTS = List.of("tight", "loose", "short", "long", "worn", "day");
        final String text;
        int at;
        int place;
        String token;
        final Told told = new Told();
        final Set<String> once = new HashSet<>();

        Parser(String text) {
            this.text = text;
        }

        void next() {
            while (at < text.length() && (text.charAt(at) == 32 || text.charAt(at) == 10)) {
                at++;
            }
            place = at;
            if (at == text.length()) {
                token = "";
                return;
            }
            int to = at;
            while (to < text.length() && text.substring(at, to + 1).matches("[a-z]+|[0-9]+|[;()<>=+*/%-]")) {
                to++;
            }
            token = text.substring(at, to);
            boolean letterBehind = to < text.length() && text.substring(to, to + 1).matches("[a-z]");
            boolean number = token.matches("[0-9]+");
            boolean good = token.matches("[a-z]{1,8}|[0-9]{1,4}|[;()<>=+*/%-]") && !(number && letterBehind);
            if (!good) {
                token = null;
            }
            at = to;
        }

        Wrong wrong() {
            return new Wrong(token == null ? 1 : 2, place);
        }

        boolean is(String word) {
            return word.equals(token);
        }

        void need(String word) {
            if (!is(word)) {
                throw wrong();
            }
            next();
        }

        int number(int most) {
            if (token == null || !token.matches("[0-9]+")) {
                throw wrong();
            }
            int n = Integer.parseInt(token);
            if (n > most) {
                throw new Wrong(4, place);
            }
            next();
            return n;
        }

        String name(List<String> others) {
            if (token == null || !token.matches("[a-z]+") || WORDS.contains(token)) {
                throw wrong();
            }
            if (others.contains(token)) {
                throw new Wrong(3, place);
            }
            String name = token;
            next();
            return name;
        }

        Told parse() {
            next();
            while (token == null || !token.isEmpty()) {
                line();
                need(";");
            }
            return told;
        }

        void line() {
            if (is("man")) {
                man();
            } else if (is("coat")) {
                coat();
            } else if (token != null && Set.of("ill", "easy", "bolt", "like", "rain", "draw").contains(token)) {
                if (!once.add(token)) {
                    throw wrong();
                }
                String word = token;
                next();
                switch (word) {
                    case "ill" -> told.ill = either(0);
                    case "easy" -> told.easy = number(999);
                    case "bolt" -> told.bolt = number(999);
                    case "like" -> told.like = number(99);
                    case "rain" -> told.rain = number(100);
                    default -> told.draw = number(999);
                }
            } else {
                throw wrong();
            }
        }

        void man() {
            if (told.men.size() == 6) {
                throw wrong();
            }
            next();
            Man m = new Man();
            m.name = name(told.men.stream().map(o -> o.name).toList());
            need("tall");
            m.tall = number(99);
            need("wide");
            m.wide = number(99);
            if (is("grows")) {
                next();
                m.grows = number(9);
            }
            told.men.add(m);
        }

        void coat() {
            if (told.coats.size() == 6) {
                throw wrong();
            }
            next();
            Coat c = new Coat();
            c.name = name(told.coats.stream().map(o -> o.name).toList());
            need("tall");
            c.tall = number(99);
            need("wide");
            c.wide = number(99);
            if (is("seam")) {
                next();
                c.seam = number(20);
            }
            if (is("worn")) {
                next();
                c.worn = number(99);
            }
            told.coats.add(c);
        }

        Node either(int depth) {
            Node a = both(depth);
            while (is("or")) {
                next();
                Node l = a;
                Node r = both(depth);
                a = f -> (l.value(f) != 0 | r.value(f) != 0) ? 1 : 0;
            }
            return a;
        }

        Node both(int depth) {
            Node a = one(depth);
            while (is("and")) {
                next();
                Node l = a;
                Node r = one(depth);
                a = f -> (l.value(f) != 0 & r.value(f) != 0) ? 1 : 0;
            }
            return a;
        }

        Node one(int depth) {
            if (is("not")) {
                if (depth == 7) {
                    throw wrong();
                }
                next();
                Node a = one(depth + 1);
                return f -> a.value(f) == 0 ? 1 : 0;
            }
            Node l = sum(depth);
            if (is("<") || is(">") || is("=")) {
                String sign = token;
                next();
                Node r = sum(depth);
                return f -> {
                    int c = Integer.compare(l.value(f), r.value(f));
                    return (sign.equals("<") ? c < 0 : sign.equals(">") ? c > 0 : c == 0) ? 1 : 0;
                };
            }
            return l;
        }

        Node sum(int depth) {
            Node a = term(depth);
            while (is("+") || is("-")) {
                int by = is("+") ? 1 : -1;
                next();
                Node l = a;
                Node r = term(depth);
                a = f -> l.value(f) + by * r.value(f);
            }
            return a;
        }

        Node term(int depth) {
            Node a = unit(depth);
            while (is("*") || is("/") || is("%")) {
                String sign = token;
                next();
                Node l = a;
                Node r = unit(depth);
                a = f -> {
                    int x = l.value(f);
                    int y = r.value(f);
                    return sign.equals("*") ? x * y : y == 0 ? 0 : sign.equals("/") ? x / y : x % y;
                };
            }
            return a;
        }

        Node unit(int depth) {
            if (token == null) {
                throw wrong();
            }
            boolean number = token.matches("[0-9]+");
            if (!number && !FACTS.contains(token) && !is("(") || told.units == 30) {
                throw wrong();
            }
            if (is("(")) {
                if (depth == 7) {
                    throw wrong();
                }
                told.units++;
                next();
                Node a = either(depth + 1);
                need(")");
                return a;
            }
            told.units++;
            String word = token;
            next();
            if (number) {
                int n = Integer.parseInt(word);
                return f -> n;
            }
            int fact = FACTS.indexOf(word);
            return f -> f[fact];
        }
    }

    private final StringBuilder tape = new StringBuilder();
    private Told told = new Told();
    private State now = new State();
    private final List<State> past = new ArrayList<>();
    private final List<State> future = new ArrayList<>();
    private final State[] boxes = new State[3];
    private final List<Seen> seens = new ArrayList<>();
    private List<Integer> lying = new ArrayList<>();
    private int time;
    private int faultSort;
    private int faultPlace = -1;

    private int men() {
        return told.men.size();
    }

    private int coats() {
        return told.coats.size();
    }

    private boolean isMan(int m) {
        return m >= 0 && m < men();
    }

    private boolean isCoat(int c) {
        return c >= 0 && c < coats();
    }

    private int ill(int manTall, int manWide, Coat c, int day) {
        int[] f = {Math.max(0, manWide - c.wide), Math.max(0, c.wide - manWide), Math.max(0, manTall - c.tall),
            Math.max(0, c.tall - manTall), c.worn, day};
        int v = told.ill == null ? f[0] * 3 + f[1] + f[2] * 2 + f[3] + f[4] : told.ill.value(f);
        return v < 0 ? 0 : v > 999 ? 999 : v;
    }

    private int ill(State s, int m, int c) {
        return ill(told.men.get(m).tall, s.wide[m], s.coats.get(c), s.day);
    }

    private boolean fits(State s, int m, int c) {
        return c >= 0 && ill(s, m, c) <= told.easy;
    }

    private int fitCount(State s) {
        int n = 0;
        for (int m = 0; m < men(); m++) {
            n += fits(s, m, s.coatOf(m)) ? 1 : 0;
        }
        return n;
    }

    private int pass(State s, boolean rainy) {
        for (int m = 0; m < men(); m++) {
            s.wide[m] = Math.min(99, s.wide[m] + told.men.get(m).grows);
        }
        s.coats.stream().filter(c -> c.wearer >= 0).forEach(c -> c.worn = Math.min(99, c.worn + 1));
        s.seed = (s.seed * 137 + 71) % 1000;
        if (rainy && s.seed % 100 < told.rain) {
            for (Coat c : s.coats) {
                if (c.wearer >= 0) {
                    c.wide = Math.max(0, c.wide - 1);
                    c.tall = Math.max(0, c.tall - 1);
                }
            }
        }
        s.day++;
        int bits = 0;
        for (int m = 0; m < men(); m++) {
            int c = s.coatOf(m);
            if (c >= 0 && !fits(s, m, c)) {
                s.coats.get(c).wearer = -1;
                bits |= 1 << m;
            }
        }
        return bits;
    }

    private void act(State before) {
        past.add(before);
        future.clear();
        if (past.size() > 40) {
            past.remove(0);
        }
    }

    public int feed(int a, int b, int c, int d, int e) {
        if (tape.length() + 20 > 1600) {
            return -1;
        }
        for (int n : new int[] {a, b, c, d, e}) {
            for (int i = 3; i >= 0; i--) {
                tape.append((char) (n >>> 8 * i & 255));
            }
        }
        return tape.length();
    }

    public int end(int n) {
        if (n < 0 || n > tape.length()) {
            return -1;
        }
        tape.setLength(n);
        return n;
    }

    public int regiment() {
        String text = tape.toString();
        tape.setLength(0);
        faultSort = 0;
        faultPlace = -1;
        try {
            told = new Parser(text).parse();
        } catch (Wrong w) {
            faultSort = w.sort;
            faultPlace = w.place;
            return -1;
        }
        now = new State();
        now.wide = told.men.stream().mapToInt(m -> m.wide).toArray();
        told.coats.forEach(c -> now.coats.add(c.copy()));
        now.seed = told.draw;
        past.clear();
        future.clear();
        seens.clear();
        lying.clear();
        Arrays.fill(boxes, null);
        return men();
    }

    public int fault(int what) {
        return what == 0 ? faultSort : what == 1 ? faultPlace : -1;
    }

    public int man(int m, int what) {
        if (!isMan(m) || what < 0 || what > 4) {
            return -2;
        }
        int bits = 0;
        for (int c = 0; c < coats(); c++) {
            bits |= fits(now, m, c) ? 1 << c : 0;
        }
        return new int[] {told.men.get(m).tall, now.wide[m], told.men.get(m).grows, now.coatOf(m), bits}[what];
    }

    public int coat(int c, int what) {
        if (!isCoat(c) || what < 0 || what > 5) {
            return -2;
        }
        Coat k = now.coats.get(c);
        return new int[] {k.tall, k.wide, k.seam, k.worn, k.turned ? 1 : 0, k.wearer}[what];
    }

    public int misfit(int m, int c) {
        return isMan(m) && isCoat(c) ? ill(now, m, c) : -1;
    }

    public int day() {
        if (now.day == 999) {
            return -1;
        }
        act(now.copy());
        return pass(now, true);
    }

    public int don(int m, int c) {
        if (!isMan(m) || !isCoat(c) || now.coats.get(c).wearer >= 0) {
            return -2;
        }
        act(now.copy());
        int old = now.coatOf(m);
        if (old >= 0) {
            now.coats.get(old).wearer = -1;
        }
        now.coats.get(c).wearer = m;
        return old;
    }

    public int doff(int m) {
        if (!isMan(m) || now.coatOf(m) < 0) {
            return -1;
        }
        act(now.copy());
        int old = now.coatOf(m);
        now.coats.get(old).wearer = -1;
        return old;
    }

    public int letout(int c, int inches) {
        if (!isCoat(c) || inches < 1 || inches > now.coats.get(c).seam || now.coats.get(c).wide + inches > 99) {
            return -1;
        }
        act(now.copy());
        now.coats.get(c).seam -= inches;
        return now.coats.get(c).wide += inches;
    }

    public int takein(int c, int inches) {
        if (!isCoat(c) || inches < 1 || inches > now.coats.get(c).wide || now.coats.get(c).seam + inches > 99) {
            return -1;
        }
        act(now.copy());
        now.coats.get(c).seam += inches;
        return now.coats.get(c).wide -= inches;
    }

    public int hem(int c, int inches) {
        if (!isCoat(c) || inches < 1 || inches > now.coats.get(c).tall) {
            return -1;
        }
        act(now.copy());
        return now.coats.get(c).tall -= inches;
    }

    public int turn(int c) {
        if (!isCoat(c) || now.coats.get(c).turned) {
            return -1;
        }
        act(now.copy());
        int was = now.coats.get(c).worn;
        now.coats.get(c).worn = 0;
        now.coats.get(c).turned = true;
        return was;
    }

    public boolean undo() {
        if (past.isEmpty()) {
            return false;
        }
        future.add(now);
        now = past.remove(past.size() - 1);
        return true;
    }

    public boolean redo() {
        if (future.isEmpty()) {
            return false;
        }
        past.add(now);
        now = future.remove(future.size() - 1);
        return true;
    }

    public int will(int m, int n, int what) {
        if (!isMan(m) || n < 0 || n > 60 || what < 0 || what > 1) {
            return -2;
        }
        State s = now.copy();
        for (int i = 0; i < n; i++) {
            pass(s, what == 1);
        }
        return s.coatOf(m);
    }

    public int out(int m) {
        if (!isMan(m)) {
            return -1;
        }
        if (now.coatOf(m) < 0) {
            return 0;
        }
        State s = now.copy();
        for (int d = 1; d <= 60; d++) {
            if ((pass(s, false) >> m & 1) == 1) {
                return d;
            }
        }
        return -1;
    }

    public int fitted() {
        int bits = 0;
        for (int m = 0; m < men(); m++) {
            bits |= fits(now, m, now.coatOf(m)) ? 1 << m : 0;
        }
        return bits;
    }

    private int[] best;
    private int bestCount;
    private int bestSum;

    private void tryAll(int m, int[] given, int count, int sum) {
        if (m == men()) {
            // the order of trying is the order of like ones, so only a better one takes its place
            if (best == null || count > bestCount || count == bestCount && sum < bestSum) {
                best = given.clone();
                bestCount = count;
                bestSum = sum;
            }
            return;
        }
        for (int c = 0; c < coats(); c++) {
            boolean free = true;
            for (int i = 0; i < m; i++) {
                free &= given[i] != c;
            }
            if (free && fits(now, m, c)) {
                given[m] = c;
                tryAll(m + 1, given, count + 1, sum + ill(now, m, c));
            }
        }
        given[m] = -1;
        tryAll(m + 1, given, count, sum);
    }

    public int dress(int what) {
        best = null;
        tryAll(0, new int[men()], 0, 0);
        lying = new ArrayList<>();
        for (int c : best) {
            lying.add(c);
        }
        return what == 0 ? bestCount : what == 1 ? bestSum : -1;
    }

    public int sewing(int c, int m, int what) {
        if (!isCoat(c) || !isMan(m) || what < 0 || what > 2) {
            return -100;
        }
        int[] found = null;
        for (int hem = 0; hem <= 20; hem++) {
            for (int in = -20; in <= 20; in++) {
                Coat k = now.coats.get(c).copy();
                k.tall -= hem;
                k.wide -= in;
                boolean can = k.tall >= 0 && k.wide >= 0 && k.wide <= 99 && (in >= 0 || -in <= k.seam);
                if (can && ill(told.men.get(m).tall, now.wide[m], k, now.day) <= told.easy) {
                    int[] one = {hem + Math.abs(in), hem, in};
                    if (found == null || one[0] < found[0] || one[0] == found[0]
                            && (one[1] < found[1] || one[1] == found[1] && one[2] > found[2])) {
                        found = one;
                    }
                }
            }
        }
        return found == null ? -100 : found[what];
    }

    public int rota(int what) {
        if (men() == 0 || what < 0 || what > 1) {
            return -1;
        }
        int bestK = 0;
        int most = -1;
        for (int k = men() - 1; k >= 0; k--) {
            int n = 0;
            for (int m = 0; m < men(); m++) {
                n += fits(now, m, now.coatOf((m + k) % men())) ? 1 : 0;
            }
            if (n >= most) {
                most = n;
                bestK = k;
            }
        }
        return what == 0 ? bestK : most;
    }

    public int change(int what) {
        if (what < 0 || what > 2) {
            return -1;
        }
        int[] found = {-1, -1, fitCount(now)};
        for (int a = 0; a < men(); a++) {
            for (int b = a + 1; b < men(); b++) {
                State s = now.copy();
                int ca = s.coatOf(a);
                int cb = s.coatOf(b);
                if (ca >= 0) {
                    s.coats.get(ca).wearer = b;
                }
                if (cb >= 0) {
                    s.coats.get(cb).wearer = a;
                }
                if (fitCount(s) > found[2]) {
                    found = new int[] {a, b, fitCount(s)};
                }
            }
        }
        return found[0] < 0 ? -1 : found[what];
    }

    /** How wide the coats of a set of men are, or below 0 if one of them has none. */
    private int wide(int set) {
        int n = 0;
        for (int m = 0; m < men(); m++) {
            if ((set >> m & 1) == 1) {
                if (now.coatOf(m) < 0) {
                    return -1;
                }
                n += now.coats.get(now.coatOf(m)).wide;
            }
        }
        return n;
    }

    private int wearers() {
        int set = 0;
        for (Coat c : now.coats) {
            set |= c.wearer < 0 ? 0 : 1 << c.wearer;
        }
        return set;
    }

    public int front(int n, int what) {
        if (n < 0 || n > 999 || what < 0 || what > 1) {
            return -1;
        }
        for (int count = 0; count <= men(); count++) {
            for (int set = 0; set < 1 << men(); set++) {
                if (Integer.bitCount(set) == count && wide(set) >= n) {
                    return what == 0 ? count : set;
                }
            }
        }
        return -1;
    }

    public int wings(int what) {
        if (what < 0 || what > 1) {
            return -1;
        }
        int all = wearers();
        int least = Integer.MAX_VALUE;
        int which = 0;
        for (int set = 0; set < 1 << men(); set++) {
            boolean led = all == 0 ? set == 0 : (set >> Integer.numberOfTrailingZeros(all) & 1) == 1;
            if ((set | all) == all && led) {
                int apart = Math.abs(wide(set) - wide(all ^ set));
                if (apart < least) {
                    least = apart;
                    which = set;
                }
            }
        }
        return what == 0 ? least : which;
    }

    private int leastRows(int c, int[] wides, int[] talls) {
        if (c == coats()) {
            return Arrays.stream(talls).sum();
        }
        int least = Integer.MAX_VALUE;
        Coat k = now.coats.get(c);
        for (int r = 0; r < coats(); r++) {
            if (wides[r] + k.wide <= told.bolt) {
                int[] w = wides.clone();
                int[] t = talls.clone();
                w[r] += k.wide;
                t[r] = Math.max(t[r], k.tall);
                least = Math.min(least, leastRows(c + 1, w, t));
            }
        }
        return least;
    }

    public int cloth() {
        int n = leastRows(0, new int[6], new int[6]);
        return n == Integer.MAX_VALUE ? -1 : n;
    }

    public int buttons() {
        int n = men();
        int[] colours = new int[n];
        int[] found = null;
        int fewest = Integer.MAX_VALUE;
        long all = Math.round(Math.pow(n, n));
        for (long code = 0; code < all; code++) {
            long rest = code;
            for (int m = n - 1; m >= 0; m--) {
                colours[m] = (int) (rest % n);
                rest /= n;
            }
            int used = (int) Arrays.stream(colours).distinct().count();
            if (used < fewest && apart(colours)) {
                fewest = used;
                found = colours.clone();
            }
        }
        lying = new ArrayList<>();
        if (n == 0) {
            return 0;
        }
        for (int c : found) {
            lying.add(c);
        }
        return fewest;
    }

    private boolean apart(int[] colours) {
        for (int a = 0; a < men(); a++) {
            for (int b = 0; b < a; b++) {
                boolean like = Math.abs(told.men.get(a).tall - told.men.get(b).tall) <= told.like;
                if (like && colours[a] == colours[b]) {
                    return false;
                }
            }
        }
        return true;
    }

    public int reach(int m, int o) {
        lying = new ArrayList<>();
        if (m == o || !isMan(m) || !isMan(o)) {
            return -1;
        }
        List<Integer> free = new ArrayList<>();
        for (int c = 0; c < coats(); c++) {
            if (now.coats.get(c).wearer < 0) {
                free.add(c);
            }
        }
        if (free.isEmpty()) {
            return -1;
        }
        int rests = 0;
        for (int a : free) {
            for (int b : free) {
                int left = a == b ? 1000 : ill(now, m, a);
                int right = a == b ? 1000 : ill(now, o, b);
                boolean better = free.stream().anyMatch(c -> c != b && ill(now, m, c) < left)
                        || free.stream().anyMatch(c -> c != a && ill(now, o, c) < right);
                if (!better) {
                    rests++;
                    if (rests == 1) {
                        lying.add(a);
                        lying.add(b);
                    }
                }
            }
        }
        return rests;
    }

    public int turning() {
        int which = -1;
        int most = -1;
        for (int c = 0; c < coats(); c++) {
            if (!now.coats.get(c).turned) {
                State s = now.copy();
                s.coats.get(c).worn = 0;
                if (fitCount(s) > most) {
                    most = fitCount(s);
                    which = c;
                }
            }
        }
        return which;
    }

    public int rags() {
        int bits = 0;
        for (int c = 0; c < coats(); c++) {
            bits |= popular(c) == 0 ? 1 << c : 0;
        }
        return bits;
    }

    public int naked() {
        int bits = 0;
        for (int m = 0; m < men(); m++) {
            bits |= man(m, 4) == 0 ? 1 << m : 0;
        }
        return bits;
    }

    public int popular(int c) {
        if (!isCoat(c)) {
            return -1;
        }
        int n = 0;
        for (int m = 0; m < men(); m++) {
            n += fits(now, m, c) ? 1 : 0;
        }
        return n;
    }

    public int law(int n) {
        if (n < 0 || n > 999) {
            return -1;
        }
        int count = 0;
        for (int m = 0; m < men(); m++) {
            count += now.coatOf(m) >= 0 && ill(now, m, now.coatOf(m)) <= n ? 1 : 0;
        }
        return count;
    }

    public int ease() {
        for (int n = 0; n <= 999; n++) {
            if (law(n) == Integer.bitCount(wearers())) {
                return n;
            }
        }
        return -1;
    }

    public int breadth() {
        return now.coats.stream().filter(c -> c.wearer >= 0).mapToInt(c -> c.wide).sum();
    }

    public int rout() {
        State s = now.copy();
        for (int d = 0; d <= 60; d++) {
            if (s.coats.stream().allMatch(c -> c.wearer < 0)) {
                return d;
            }
            pass(s, false);
        }
        return -1;
    }

    public int odds(int n, int part) {
        if (n < 0 || n > 4 || part < 0 || part > 1) {
            return -1;
        }
        java.math.BigInteger up = java.math.BigInteger.valueOf(100 - told.rain).pow(n);
        java.math.BigInteger low = java.math.BigInteger.valueOf(100).pow(n);
        java.math.BigInteger gcd = up.gcd(low);
        return (part == 0 ? up : low).divide(gcd).intValueExact();
    }

    public int lies(int i) {
        return i >= 0 && i < lying.size() ? lying.get(i) : -2;
    }

    public int seen(int days, boolean is) {
        if (days < 0 || days > 20 || seens.size() == 30 || men() == 0 || coats() == 0) {
            return -1;
        }
        Seen s = new Seen();
        s.days = days;
        s.is = is;
        s.told = time;
        seens.add(s);
        return seens.size() - 1;
    }

    public boolean untell(int n) {
        if (n < 0 || n >= seens.size() || seens.get(n).untold != null) {
            return false;
        }
        seens.get(n).untold = time;
        return true;
    }

    public int later(int by) {
        if (by < 0 || by > 1000 || time + by > 100000) {
            return -1;
        }
        return time += by;
    }

    /** Day by day, as it would go. */
    private boolean stillFits(int growth, int days) {
        int wide = told.men.get(0).wide;
        Coat c = told.coats.get(0).copy();
        for (int d = 0; d < days; d++) {
            wide = Math.min(99, wide + growth);
            c.worn = Math.min(99, c.worn + 1);
        }
        return ill(told.men.get(0).tall, wide, c, days) <= told.easy;
    }

    private List<Integer> possible(int k) {
        List<Integer> all = new ArrayList<>();
        if (men() == 0 || coats() == 0) {
            return all;
        }
        for (int g = 0; g <= 30; g++) {
            boolean may = true;
            for (Seen s : seens) {
                boolean counts = s.told <= k && (s.untold == null || s.untold > k);
                may &= !counts || stillFits(g, s.days) == s.is;
            }
            if (may) {
                all.add(g);
            }
        }
        return all;
    }

    public int growths(int k) {
        return possible(k).size();
    }

    public int sure(int what, int k) {
        List<Integer> all = possible(k);
        if (all.isEmpty() || what < 0 || what > 1) {
            return -1;
        }
        return all.get(what == 0 ? 0 : all.size() - 1);
    }

    public int ask(int what, int k) {
        List<Integer> all = possible(k);
        if (all.isEmpty() || what < 0 || what > 1) {
            return -1;
        }
        int fewest = Integer.MAX_VALUE;
        int which = -1;
        for (int d = 0; d <= 20; d++) {
            int days = d;
            int fit = (int) all.stream().filter(g -> stillFits(g, days)).count();
            int left = Math.max(fit, all.size() - fit);
            if (left < fewest) {
                fewest = left;
                which = d;
            }
        }
        return what == 0 ? which : fewest;
    }

    public int image(int box) {
        if (box < 0 || box > 2) {
            return -1;
        }
        boxes[box] = now.copy();
        return now.day;
    }

    public int back(int box) {
        if (box < 0 || box > 2 || boxes[box] == null) {
            return -1;
        }
        now = boxes[box].copy();
        past.clear();
        future.clear();
        return now.day;
    }

    public int about(int what) {
        int[] all = {men(), coats(), told.easy, told.bolt, told.like, now.day, now.seed, past.size(), future.size(),
            seens.size(), time, tape.length(), told.units, lying.size()};
        return what >= 0 && what < all.length ? all[what] : -1;
    }
}
