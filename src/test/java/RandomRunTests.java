import java.lang.reflect.InvocationTargetException;
import java.lang.reflect.Method;
import java.util.ArrayList;
import java.util.Arrays;
import java.util.Comparator;
import java.util.HashMap;
import java.util.List;
import java.util.Map;
import java.util.Random;

/** Random runs of calls on the class and on the plain model: every answer must be the same. */
public final class RandomRunTests {
    private static final int MOST_CALLS = 512;
    private static final int NONE_ASKED = -1;
    private static final Map<String, Method> MODEL = new HashMap<>();
    private static final List<Method> FACE = new ArrayList<>();

    private final Random random;
    private final DarkestDay subject = new DarkestDay();
    private final PlainModel model = new PlainModel();
    private final List<String> calls = new ArrayList<>();
    private final Texts texts;

    private RandomRunTests(long seed) {
        random = new Random(seed);
        texts = new Texts(random);
    }

    public static void main(String[] args) throws Exception {
        int runs = args.length > 0 ? Integer.parseInt(args[0]) : 1500;
        long first = args.length > 1 ? Long.parseLong(args[1]) : 1;
        for (Method m : DarkestDay.class.getDeclaredMethods()) {
            if (java.lang.reflect.Modifier.isPublic(m.getModifiers())) {
                FACE.add(m);
                Method same = PlainModel.class.getDeclaredMethod(m.getName(), m.getParameterTypes());
                same.setAccessible(true);
                MODEL.put(m.getName(), same);
            }
        }
        FACE.sort(Comparator.comparing(Method::getName));
        int passed = 0;
        int failed = 0;
        for (int i = 0; i < runs; i++) {
            RandomRunTests run = new RandomRunTests(first + i);
            if (run.agrees()) {
                passed++;
            } else {
                failed++;
                System.out.println("run " + (first + i) + ": " + String.join("\n    ", run.calls));
                break;
            }
        }
        System.out.println("RandomRunTests: " + passed + " passed, " + failed + " failed");
        if (failed > 0) {
            System.exit(1);
        }
    }

    private boolean agrees() throws Exception {
        int most = random.nextInt(3) == 0 ? MOST_CALLS : 120;
        if (random.nextInt(10) > 0 && !tells(0)) {
            return false;
        }
        if (random.nextInt(12) == 0 && !nearsTheLastYear()) {
            return false;
        }
        while (calls.size() < most - 60) {
            int choice = random.nextInt(40);
            boolean fine;
            if (choice == 0) {
                fine = tells(random.nextInt(3));
            } else if (choice < 3) {
                fine = tells(1 + random.nextInt(2));
            } else if (choice < 9) {
                fine = same("pass");
            } else if (choice == 9) {
                fine = sweeps();
            } else {
                fine = anyCall(FACE.get(random.nextInt(FACE.size())));
            }
            if (!fine) {
                return false;
            }
        }
        return asItIs();
    }

    private boolean nearsTheLastYear() throws Exception {
        if (!tells("sd2t9f" + random.nextInt(10) + ";k;kn2;kv1;p;ph1o1;ph2o0")) {
            return false;
        }
        for (int i = 0; i < 34; i++) {
            if (!same("years", i < 33 ? 60 : random.nextInt(22), random.nextLong())) {
                return false;
            }
        }
        return true;
    }

    private boolean tells(String seaport) throws Exception {
        return same("end", 0) && feeds(seaport) && same("text", 0);
    }

    private boolean feeds(String text) throws Exception {
        byte[] bytes = text.getBytes("ISO-8859-1");
        for (int i = 0; i < bytes.length; i += 20) {
            byte[] piece = Arrays.copyOf(Arrays.copyOfRange(bytes, i, Math.min(bytes.length, i + 20)), 20);
            Object[] words = new Object[5];
            for (int w = 0; w < 5; w++) {
                words[w] = java.nio.ByteBuffer.wrap(piece).getInt(4 * w);
            }
            if (!same("feed", words)) {
                return false;
            }
        }
        return true;
    }

    /** Tells a text and has it read; a law holds then. */
    private boolean tells(int sort) throws Exception {
        if (!same("end", 0) || !feeds(texts.any(sort))) {
            return false;
        }
        if (random.nextInt(8) == 0 && !same("fault", random.nextInt(5) - 1)) {
            return false;
        }
        if (!same("fault", sort) || !same("text", sort)) {
            return false;
        }
        return sort != 1 || same("law", model.laws.size() - 1);
    }

    private boolean anyCall(Method m) throws Exception {
        String name = m.getName();
        if (name.equals("text") || name.equals("back") && random.nextInt(3) > 0
                || name.equals("whim") && random.nextInt(4) > 0) {
            return true;
        }
        Class<?>[] types = m.getParameterTypes();
        Object[] values = new Object[types.length];
        for (int i = 0; i < types.length; i++) {
            values[i] = types[i] == int.class ? (Object) number(name, i)
                    : types[i] == long.class ? (Object) random.nextLong() : (Object) random.nextBoolean();
        }
        if (name.equals("feed") && random.nextInt(4) > 0) {
            return true;
        }
        return same(name, values);
    }

    private int number(String name, int i) {
        if (random.nextInt(80) == 0) {
            int[] extremes = {Integer.MIN_VALUE, Integer.MAX_VALUE, -1000, 1000, 65536, -2, 31, 32, 33, 64};
            return extremes[random.nextInt(extremes.length)];
        }
        if (random.nextInt(15) == 0) {
            return random.nextInt(70) - 3;
        }
        int persons = Math.max(1, model.count(0));
        int kinds = Math.max(1, model.count(1));
        int days = Math.max(1, model.count(2));
        switch (name + i) {
            case "person0": case "habit0": case "bed0": case "habits0": case "ask0": case "game0": case "game1":
            case "rests0": case "rests1": case "shares0":
                return random.nextInt(persons);
            case "kind0": case "habit1": case "swings0": case "bedding0": case "game2": case "game3": case "did1":
                return random.nextInt(kinds);
            case "light0": case "odds0":
                return random.nextInt(days);
            case "did0":
                return random.nextInt(1 + model.count(8));
            case "kind1": case "person1": case "status0": case "log0":
                return random.nextInt(5);
            case "game4": case "round0": case "coming0": case "run1":
                return random.nextInt(2);
            case "run0": case "perform0": case "step0":
                return random.nextInt(Math.max(1, model.count(4)));
            case "fog0": case "candles0":
                return random.nextInt(10);
            case "give0":
                return random.nextInt(52);
            case "seen0":
                return 1 + random.nextInt(20);
            case "seen1":
                return random.nextInt(random.nextBoolean() ? 100 : 1000);
            case "habits1": case "rests2":
                return random.nextInt(4) - 1;
            case "years0": case "governs0":
                return random.nextInt(random.nextInt(5) == 0 ? 62 : 8);
            case "coins0": case "odds1":
                return random.nextInt(101);
            case "step1":
                return random.nextInt(8);
            case "step2": case "log1":
                return random.nextInt(3);
            case "may0":
                return random.nextInt(random.nextBoolean() ? 4 : 22);
            case "shares1":
                return random.nextInt(1000);
            case "count0":
                return random.nextInt(17);
            case "all0":
                return random.nextInt(9);
            case "end0":
                return random.nextInt(30);
            case "feed0":
                return random.nextInt();
            default:
                return random.nextInt(8) - (random.nextInt(8) == 0 ? 1 : 0);
        }
    }

    /** Asks for all kinds and for all pairs of two of the persons. */
    private boolean sweeps() throws Exception {
        for (int kind = 0; kind < model.count(1); kind++) {
            if (!same("swings", kind) || !same("bedding", kind)) {
                return false;
            }
        }
        int one = random.nextInt(Math.max(1, model.count(0)));
        for (int other = 0; other < model.count(0); other++) {
            for (int i = NONE_ASKED; i < 3; i++) {
                if (!same("rests", one, other, i)) {
                    return false;
                }
            }
        }
        return true;
    }

    private boolean asItIs() throws Exception {
        for (int i = 0; i <= 16; i++) {
            if (!same("count", i)) {
                return false;
            }
        }
        return true;
    }

    private boolean same(String name, Object... values) throws Exception {
        Method face = null;
        for (Method m : FACE) {
            face = m.getName().equals(name) ? m : face;
        }
        Object want = answer(MODEL.get(name), model, values);
        Object got = answer(face, subject, values);
        calls.add(name + Arrays.toString(values) + " -> " + want);
        if (want.equals(got)) {
            return true;
        }
        calls.add("    answered " + got);
        return false;
    }

    private static Object answer(Method m, Object on, Object[] values) throws Exception {
        try {
            return m.invoke(on, values);
        } catch (InvocationTargetException e) {
            return "throws." + e.getCause().getClass().getSimpleName();
        }
    }
}
