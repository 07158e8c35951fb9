import java.lang.reflect.InvocationTargetException;
import java.lang.reflect.Method;
import java.util.Arrays;
import java.util.Comparator;
import java.util.Random;

/** All promises: runs of calls by chance (always the same ones), each answered by the program and by the model. */
public final class ModelTest {
    private static final int RUNS = 1500, CALLS = 500;
    private static final String LETTERS = "tseahplxz,;0123456789 T";

    private final Random random;
    private final NodBets bets = new NodBets();
    private final Model model = new Model();
    private final Method[] calls;
    private final Method[] twins;
    private final StringBuilder told = new StringBuilder();
    private int made = 0;
    private boolean same = true;

    private ModelTest(long seed) throws NoSuchMethodException {
        random = new Random(seed);
        calls = Arrays.stream(NodBets.class.getDeclaredMethods())
                .filter(m -> java.lang.reflect.Modifier.isPublic(m.getModifiers()))
                .sorted(Comparator.comparing(Method::getName)).toArray(Method[]::new);
        twins = new Method[calls.length];
        for (int i = 0; i < calls.length; i++) {
            twins[i] = Model.class.getDeclaredMethod(calls[i].getName(), calls[i].getParameterTypes());
        }
    }

    public static void main(String[] args) throws ReflectiveOperationException {
        int wrong = 0;
        for (int run = 0; run < RUNS && wrong < 5; run++) {
            ModelTest test = new ModelTest(run);
            test.run();
            if (!test.same) {
                wrong++;
                System.out.println("run " + run + ": " + test.told);
            }
        }
        System.out.println(RUNS + " runs, " + wrong + " wrong");
        if (wrong != 0) {
            System.exit(1);
        }
    }

    private void run() throws ReflectiveOperationException {
        while (made < CALLS && same) {
            int chance = random.nextInt(100);
            if (chance < 2 || made == 0 && chance < 90) {
                feedTown();
            } else if (chance < 10) {
                fillRow();
            } else if (chance < 25) {
                call("tell", stranger(), lie());
            } else if (chance < 30) {
                call(chance < 27 ? "supper" : "undo", chance < 27 ? new int[] {stranger()} : new int[0]);
            } else {
                callAny();
            }
        }
    }

    private void feedTown() throws ReflectiveOperationException {
        StringBuilder text = new StringBuilder("t").append(1 + random.nextInt(9)).append(';');
        int lies = random.nextInt(8) == 0 ? random.nextInt(8) : 3 + random.nextInt(4);
        for (int i = 0; i < lies; i++) {
            text.append("eahpl".charAt(random.nextInt(5))).append(1 + random.nextInt(random.nextBoolean() ? 20 : 9));
            text.append(',').append(random.nextInt(random.nextBoolean() ? 2 : 4)).append(';');
        }
        int strangers = random.nextInt(8) == 0 ? random.nextInt(6) : 2 + random.nextInt(3);
        for (int i = 0; i < strangers; i++) {
            text.append('s').append(random.nextInt(21)).append(',').append(random.nextInt(16)).append(';');
        }
        if (random.nextInt(3) == 0) {
            spoil(text);
        }
        for (int i = 0; i < text.length(); i++) {
            call("feed", text.charAt(i));
        }
        call("town");
        call("fault");
    }

    private void spoil(StringBuilder text) {
        for (int i = random.nextInt(3); i >= 0; i--) {
            int at = random.nextInt(text.length());
            char letter = LETTERS.charAt(random.nextInt(LETTERS.length()));
            switch (random.nextInt(4)) {
                case 0: text.setCharAt(at, letter); break;
                case 1: text.insert(at, letter); break;
                case 2: text.setLength(at + 1); break;
                default: if (text.length() > 1) text.deleteCharAt(at);
            }
        }
    }

    private void fillRow() throws ReflectiveOperationException {
        int row = random.nextInt(3);
        call("row", row, random.nextInt(3), 12);
        boolean spoilt = random.nextInt(6) == 0;
        for (int t = 0; t < 6; t++) {
            call("set", row, 2 * t, spoilt && random.nextInt(4) == 0 ? random.nextInt(9) - 2 : random.nextInt(4));
            call("set", row, 2 * t + 1, spoilt && random.nextInt(4) == 0 ? 2 : random.nextInt(2));
        }
        for (int n = 0; n <= 6; n++) {
            call("who", row, 0, n);
            call("doubted", stranger(), row, 0, n, random.nextInt(2));
            call("trusted", stranger(), row, 0, n);
            call("odds", stranger(), row, 0, n, random.nextInt(n + 1), random.nextInt(11), random.nextInt(2));
        }
    }

    private int stranger() {
        return random.nextInt(20) == 0 ? random.nextInt(7) - 1 : random.nextInt(3);
    }

    private int lie() {
        return random.nextInt(20) == 0 ? random.nextInt(9) - 1 : random.nextInt(5);
    }

    /** Any call but town(), which would read what is hardly ever a whole text. */
    private void callAny() throws ReflectiveOperationException {
        Method call = calls[random.nextInt(calls.length)];
        if (call.getName().equals("town") || call.getName().equals("feed") && random.nextInt(4) != 0) {
            return;
        }
        int[] numbers = new int[call.getParameterCount()];
        for (int i = 0; i < numbers.length; i++) {
            numbers[i] = anyNumber();
        }
        if (call.getName().equals("order")) {
            numbers[1] = random.nextInt(66) - 1;
        }
        call(call.getName(), numbers);
    }

    private int anyNumber() {
        int chance = random.nextInt(200);
        if (chance == 0) {
            return random.nextInt();
        }
        if (chance == 1) {
            return random.nextBoolean() ? Integer.MAX_VALUE : Integer.MIN_VALUE;
        }
        return chance < 20 ? random.nextInt(14) - 3 : random.nextInt(chance < 120 ? 2 : 5);
    }

    private void call(String name, int... numbers) throws ReflectiveOperationException {
        if (!same) {
            return;
        }
        int at = 0;
        while (!calls[at].getName().equals(name)) {
            at++;
        }
        Object[] arguments = Arrays.stream(numbers).boxed().toArray();
        Object got;
        try {
            got = calls[at].invoke(bets, arguments);
        } catch (InvocationTargetException thrown) {
            got = thrown.getCause();
        }
        Object due = twins[at].invoke(model, arguments);
        made++;
        told.append(' ').append(name).append(Arrays.toString(numbers)).append('=').append(got);
        if (!due.equals(got)) {
            same = false;
            told.append(" due is ").append(due);
        }
    }
}
