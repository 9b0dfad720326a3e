import java.lang.reflect.Method;
import java.lang.reflect.Modifier;
import java.util.ArrayList;
import java.util.Arrays;
import java.util.Comparator;
import java.util.List;
import java.util.Random;

/** Random runs of calls, each answered by the class and by the Model. */
public final class ModelTest {
    private static final int RUNS = Integer.getInteger("runs", 600);
    private static final int CALLS = 400;

    private final Random random;
    private final TailorRegiment x = new TailorRegiment();
    private final Model model = new Model();
    private final List<String> trace = new ArrayList<>();
    private final Check check;

    private ModelTest(Check check, int seed) {
        this.check = check;
        random = new Random(seed);
    }

    public static void main(String[] args) throws Exception {
        Check check = new Check("ModelTest");
        Method[] face = Arrays.stream(Model.class.getDeclaredMethods())
                .filter(m -> Modifier.isPublic(m.getModifiers()))
                .sorted(Comparator.comparing(Method::getName)).toArray(Method[]::new);
        for (int run = 0; run < RUNS; run++) {
            if (!new ModelTest(check, run).run(face)) {
                break;
            }
        }
        check.finish();
    }

    private boolean run(Method[] face) throws Exception {
        int calls = 0;
        while (calls < CALLS) {
            boolean same = true;
            int kind = random.nextInt(100);
            if (calls == 0 && random.nextInt(20) > 0 || kind == 0) {
                same = tell(random.nextInt(4) == 0 ? broken(text()) : text());
                calls += 5;
            } else if (kind < 4) {
                for (int i = 0; i < 6 && same; i++) {
                    same = call("don", random.nextInt(7) - 1, random.nextInt(6));
                }
                calls += 6;
            } else if (kind < 6) {
                for (int i = 0; i < 14 && same; i++) {
                    same = call("about", i);
                }
                calls += 14;
            } else if (kind < 8) {
                for (int i = 0; i < 7 && same; i++) {
                    same = call("lies", i);
                }
                calls += 7;
            } else {
                Method m = face[random.nextInt(face.length)];
                same = call(m.getName(), arguments(m));
                calls++;
            }
            if (!same) {
                trace.forEach(System.out::println);
                return false;
            }
        }
        return true;
    }

    private boolean tell(String text) throws Exception {
        for (int at = 0; at < text.length(); at += 20) {
            Object[] five = new Object[5];
            for (int i = 0; i < 5; i++) {
                int four = 0;
                for (int j = 0; j < 4; j++) {
                    int c = at + 4 * i + j;
                    four = four << 8 | (c < text.length() ? text.charAt(c) & 255 : 0);
                }
                five[i] = four;
            }
            if (!call("feed", five)) {
                return false;
            }
        }
        trace.add("text: " + text);
        return call("end", text.length()) && call("regiment") && call("fault", 0) && call("fault", 1);
    }

    private boolean call(String name, Object... args) throws Exception {
        Class<?>[] types = Arrays.stream(args)
                .map(a -> a instanceof Boolean ? boolean.class : int.class).toArray(Class<?>[]::new);
        Object got = TailorRegiment.class.getMethod(name, types).invoke(x, args);
        Object want = Model.class.getMethod(name, types).invoke(model, args);
        trace.add(name + Arrays.toString(args) + " " + want);
        check.due(name + Arrays.toString(args), number(got), number(want));
        return got.equals(want);
    }

    private static long number(Object answer) {
        return answer instanceof Boolean b ? b ? 1 : 0 : ((Integer) answer).longValue();
    }

    private Object[] arguments(Method m) {
        Class<?>[] types = m.getParameterTypes();
        Object[] args = new Object[types.length];
        for (int i = 0; i < types.length; i++) {
            args[i] = types[i] == boolean.class ? (Object) random.nextBoolean() : (Object) argument(m.getName(), i);
        }
        return args;
    }

    private int argument(String name, int i) {
        if (random.nextInt(60) == 0) {
            int[] far = {Integer.MIN_VALUE, Integer.MAX_VALUE, -1, -2, 1000, 999, 100000, 61, 60, 21, 31, 64};
            return far[random.nextInt(far.length)];
        }
        return switch (name) {
            case "feed" -> random.nextInt();
            case "end" -> random.nextInt(30) - 2;
            case "man", "coat" -> random.nextInt(8) - 1;
            case "letout", "takein", "hem" -> i == 0 ? random.nextInt(8) - 1 : random.nextInt(9) - 1;
            case "will" -> i == 0 ? random.nextInt(7) : i == 1 ? random.nextInt(16) - 1 : random.nextInt(4) - 1;
            case "front" -> i == 0 ? random.nextInt(150) : random.nextInt(4) - 1;
            case "law" -> random.nextInt(60) - 2;
            case "later" -> random.nextInt(12) - 2;
            case "seen" -> random.nextInt(22);
            case "growths" -> random.nextInt(30) - 2;
            case "sure", "ask" -> i == 0 ? random.nextInt(4) - 1 : random.nextInt(30) - 2;
            case "about" -> random.nextInt(17) - 2;
            case "odds" -> i == 0 ? random.nextInt(7) - 1 : random.nextInt(4) - 1;
            case "untell" -> random.nextInt(12) - 1;
            case "image", "back" -> random.nextInt(5) - 1;
            case "dress", "rota", "wings", "change" -> random.nextInt(5) - 1;
            default -> random.nextInt(8) - 1;
        };
    }

    private String text() {
        StringBuilder b = new StringBuilder();
        boolean small = random.nextBoolean();
        int men = random.nextInt(7);
        int coats = random.nextInt(7);
        int base = random.nextInt(80);
        List<String> lines = new ArrayList<>();
        for (int i = 0; i < men; i++) {
            lines.add("man " + (char) ('a' + i) + " tall " + measure(small, base) + " wide " + measure(small, base)
                    + (random.nextBoolean() ? " grows " + random.nextInt(small ? 4 : 10) : ""));
        }
        for (int i = 0; i < coats; i++) {
            lines.add("coat " + (char) ('a' + i) + " tall " + measure(small, base) + " wide " + measure(small, base)
                    + (random.nextBoolean() ? " seam " + random.nextInt(21) : "")
                    + (random.nextBoolean() ? " worn " + random.nextInt(small ? 12 : 100) : ""));
        }
        if (random.nextInt(3) > 0) {
            lines.add("ill " + formula(3 + random.nextInt(6), 0));
        }
        String[] settings = {"easy " + random.nextInt(small ? 30 : 200), "bolt " + random.nextInt(300),
            "like " + random.nextInt(12), "rain " + random.nextInt(101), "draw " + random.nextInt(1000)};
        for (String s : settings) {
            if (random.nextInt(4) > 0) {
                lines.add(s);
            }
        }
        java.util.Collections.shuffle(lines, random);
        for (String line : lines) {
            b.append(line).append(random.nextInt(5) == 0 ? " ;\n" : ";");
        }
        return b.length() > 1600 ? "" : b.toString();
    }

    private int measure(boolean small, int base) {
        return small ? base + random.nextInt(15) : random.nextInt(100);
    }

    private String formula(int size, int depth) {
        if (size <= 1 || depth > 8) {
            String[] units = {"tight", "loose", "short", "long", "worn", "day", "" + random.nextInt(10),
                "" + random.nextInt(10000)};
            return units[random.nextInt(random.nextInt(4) == 0 ? 8 : 7)];
        }
        int left = 1 + random.nextInt(size - 1);
        String[] signs = {"+", "+", "+", "-", "*", "/", "%", "<", ">", "=", " and ", " or "};
        String sign = signs[random.nextInt(signs.length)];
        boolean logic = sign.contains(" ");
        return part(left, depth, logic) + sign + part(size - left, depth, logic);
    }

    private String part(int size, int depth, boolean logic) {
        String inner = formula(size, depth + 1);
        if (logic && random.nextInt(3) == 0) {
            return "not " + inner;
        }
        return size > 1 && random.nextInt(3) > 0 || inner.contains("not") ? "(" + inner + ")" : inner;
    }

    /** Some bytes changed, gone, doubled, or put in from what the language has. */
    private String broken(String text) {
        StringBuilder b = new StringBuilder(text);
        String[] parts = {"man ", "coat ", "tall ", "wide ", "grows ", "seam ", "worn ", "ill ", "easy 3;", "(", ")",
            "not ", "and ", "or ", "12345", "12a", "abcdefgh ", "abcdefghi ", "$", ";", "<", "100 ", "\n", " ", "21 ",
            "not not not not not not not ", "((((((", "day", "x", "1", "\u00e9", "1+1+1+1+1+1+1+1+1+1+1+1+1+1+1+1+"};
        for (int i = random.nextInt(3); i >= 0; i--) {
            int at = random.nextInt(b.length() + 1);
            switch (random.nextInt(4)) {
                case 0 -> b.insert(at, parts[random.nextInt(parts.length)]);
                case 1 -> b.setLength(at);
                case 2 -> b.delete(at, Math.min(b.length(), at + 1 + random.nextInt(6)));
                default -> {
                    if (at < b.length()) {
                        b.setCharAt(at, (char) random.nextInt(256));
                    }
                }
            }
        }
        return b.length() > 1600 ? "" : b.toString();
    }
}
