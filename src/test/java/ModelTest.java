import java.lang.reflect.Method;
import java.util.ArrayList;
import java.util.Arrays;
import java.util.Comparator;
import java.util.List;
import java.util.Random;

/** All promises at once: runs of drawn calls on the class and on the model, whose answers must be the same. */
public final class ModelTest {
    private static final int RUNS = 400, CALLS = 512;
    private static final Due due = new Due("ModelTest");
    private static final int[] WILD = {-1, Integer.MIN_VALUE, Integer.MAX_VALUE, -7, 1000, 256, 41, 100};

    private final Random random;
    private final NearlySaid x = new NearlySaid();
    private final Model model = new Model();
    private final List<Method> methods = new ArrayList<>();
    private final int run;
    private int calls;

    private ModelTest(int run) {
        this.run = run;
        random = new Random(run);
        for (Method m : NearlySaid.class.getDeclaredMethods()) {
            if (java.lang.reflect.Modifier.isPublic(m.getModifiers())) {
                methods.add(m);
            }
        }
        methods.sort(Comparator.comparing(Method::getName));
    }

    public static void main(String[] args) throws Exception {
        for (int run = 0; run < RUNS; run++) {
            new ModelTest(run).play();
        }
        due.end();
    }

    private void play() throws Exception {
        if (random.nextInt(8) != 0) {
            feedStreet();
        }
        while (calls < CALLS) {
            int turn = random.nextInt(60);
            if (turn == 0) {
                feedStreet();
            } else if (turn == 1) {
                tellRow();
            } else if (turn < 8) {
                call(method("minutes"), 1 + random.nextInt(random.nextBoolean() ? 24 : 3));
            } else {
                Method m = methods.get(random.nextInt(methods.size()));
                call(m, drawArguments(m.getName(), m.getParameterCount()));
            }
        }
    }

    private Method method(String name) {
        return methods.stream().filter(m -> m.getName().equals(name)).findFirst().orElseThrow();
    }

    /** Beyond the 512th call what is answered is free, so none is made. */
    private long call(Method m, int... a) throws Exception {
        if (calls == CALLS) {
            return 0;
        }
        calls++;
        Object[] boxed = Arrays.stream(a).boxed().toArray();
        long got = ((Number) m.invoke(x, boxed)).longValue();
        String told = "run " + run + ", call " + calls + ": " + m.getName() + Arrays.toString(a);
        due.is(told, got, model.call(m.getName(), a));
        return got;
    }

    private void feedStreet() throws Exception {
        StringBuilder text = new StringBuilder();
        text.append('g').append(1 + random.nextInt(9)).append(',').append(random.nextInt(100)).append(';');
        int houses = 1 + random.nextInt(random.nextInt(6) == 0 ? 8 : 7);
        for (int h = 0; h < houses; h++) {
            text.append("khmsn".charAt(random.nextInt(5))).append(random.nextInt(21)).append(',');
            text.append(1 + random.nextInt(random.nextBoolean() ? 9 : 3)).append(',');
            text.append(random.nextInt(10)).append(';');
        }
        if (random.nextInt(5) == 0) {
            spoil(text);
        }
        call(method("street"));
        for (int i = 0; i < text.length(); i++) {
            call(method("feed"), text.charAt(i));
        }
        call(method("street"));
        call(method("fault"));
    }

    private void spoil(StringBuilder text) {
        int at = random.nextInt(text.length());
        char other = "g0129,;kq \u00ff".charAt(random.nextInt(11));
        switch (random.nextInt(4)) {
            case 0: text.deleteCharAt(at); break;
            case 1: text.insert(at, other); break;
            case 2: text.setCharAt(at, other); break;
            default: text.setLength(at);
        }
    }

    /** A row that tells what will be, so that who() and silent() find something. */
    private void tellRow() throws Exception {
        int row = random.nextInt(8);
        int house = random.nextInt(7);
        int n = 1 + random.nextInt(12);
        call(method("row"), row, 1 + random.nextInt(2), n);
        for (int m = 1; m <= n; m++) {
            call(method("set"), row, m - 1, (int) call(method("ahead"), house, m));
        }
        for (int other = 0; other < 3; other++) {
            int asked = random.nextInt(house + 1);
            int length = 1 + random.nextInt(n);
            call(method("who"), asked, random.nextInt(3), house, row, 0, length);
            call(method("silent"), house, row, 0, length);
        }
    }

    private int[] drawArguments(String name, int many) {
        int[] a = new int[many];
        for (int i = 0; i < many; i++) {
            a[i] = drawNumber(name, i);
        }
        return a;
    }

    /** Mostly what is right at that place, else anything. */
    private int drawNumber(String name, int i) {
        if (random.nextInt(25) == 0) {
            return WILD[random.nextInt(WILD.length)];
        }
        switch (name) {
            case "row": return random.nextInt(i == 0 ? 8 : i == 1 ? 3 : 42);
            case "set": return i == 0 ? random.nextInt(8) : i == 1 ? random.nextInt(20) : random.nextInt() >> random.nextInt(32);
            case "copy": return random.nextInt(i == 0 || i == 2 ? 8 : 16);
            case "feed": return random.nextInt(257);
            case "talk": return random.nextInt(i == 0 ? 7 : 22);
            case "bars": return random.nextInt(i == 0 ? 7 : 11);
            case "letDown": return random.nextInt(random.nextBoolean() ? 101 : 10);
            case "house": return random.nextInt(8);
            case "hush": return random.nextInt(i == 0 ? 7 : 2);
            case "ahead":
            case "loud": return i == 0 ? random.nextInt(7) : random.nextInt(101);
            case "most": return i == 0 ? random.nextInt(7) : i == 1 ? random.nextInt(101) : random.nextInt(2);
            case "pond": return i == 0 ? random.nextInt(101) : random.nextInt(2);
            case "full":
            case "image":
            case "restore": return random.nextInt(2);
            case "hushes": return i == 0 ? random.nextInt(7) : i == 1 ? random.nextInt(random.nextBoolean() ? 42 : 6) : random.nextInt(2);
            case "spares":
            case "catches": return i == 0 ? random.nextInt(random.nextBoolean() ? 42 : 10) : random.nextInt(2);
            case "from": return i == 0 ? random.nextInt(7) : random.nextInt(42);
            case "hushed": return i == 0 ? random.nextInt(random.nextBoolean() ? 42 : 10) : i == 1 ? random.nextInt(12) : random.nextInt(2);
            case "drawn": return i == 0 ? random.nextInt(62) : i == 1 ? random.nextInt(1000001) : random.nextInt(2);
            case "who": return random.nextInt(i == 1 ? 3 : i == 5 ? 14 : 8);
            case "silent": return random.nextInt(i == 3 ? 14 : 8);
            case "ask": return random.nextInt(i == 0 ? 7 : 2);
            default: return random.nextInt(8);
        }
    }
}
