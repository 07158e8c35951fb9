import java.lang.reflect.InvocationTargetException;
import java.lang.reflect.Method;
import java.lang.reflect.Modifier;
import java.util.Arrays;

/** Every call with every mix of numbers at and beyond the edges, in several states: none throws, all are as due. */
public final class ExtremesTest {
    private static final int MIN = Integer.MIN_VALUE, MAX = Integer.MAX_VALUE;
    private static final int[] MANY = {MIN, -2, -1, 0, 1, 2, 3, 4, 5, 6, 7, 8, 10, 11, 12, 39, 40, 41, 63, 64, 255, 256,
        MAX - 11, MAX};
    private static final int[] SOME = {MIN, -1, 0, 1, 2, 3, 5, 6, 7, 8, 40, MAX};
    private static final int[] FEW = {MIN, -1, 0, 1, 6, 7, MAX};
    private static final int[] FEWEST = {-1, 0, 1, 6, 11};
    private static final String[] TOWNS = {"", "t1;", "t9;e5,0;h9,0;", "t2;s9,3;s4,0;",
        "t3;e5,0;h8,0;p2,1;l3,1;s9,2;s4,0;", "t5;e5,0;a4,0;h8,0;p2,1;l3,1;e20,3;s9,2;s4,0;s20,15;s0,0;"};
    /** So that no object is used for more calls than the document says. */
    private static final int CALLS = 380;

    private NodBets bets;
    private Model model;
    private int left = 0;
    private int made = 0;
    private int wrong = 0;

    public static void main(String[] args) throws ReflectiveOperationException {
        ExtremesTest test = new ExtremesTest();
        for (String town : TOWNS) {
            for (Method call : NodBets.class.getDeclaredMethods()) {
                if (Modifier.isPublic(call.getModifiers())) {
                    test.mixes(town, call);
                }
            }
        }
        System.out.println(test.made + " calls, " + test.wrong + " wrong");
        if (test.wrong != 0) {
            System.exit(1);
        }
    }

    private void mixes(String town, Method call) throws ReflectiveOperationException {
        Method twin = Model.class.getDeclaredMethod(call.getName(), call.getParameterTypes());
        int places = call.getParameterCount();
        int[] numbers = places <= 2 ? MANY : places <= 4 ? SOME : places == 5 ? FEW : FEWEST;
        int mixes = 1;
        for (int i = 0; i < places; i++) {
            mixes *= numbers.length;
        }
        left = 0;
        for (int mix = 0; mix < mixes && wrong < 20; mix++) {
            Object[] arguments = new Object[places];
            int rest = mix;
            for (int i = 0; i < places; i++) {
                arguments[i] = numbers[rest % numbers.length];
                rest /= numbers.length;
            }
            compare(town, call, twin, arguments);
        }
    }

    private void compare(String town, Method call, Method twin, Object[] arguments) throws ReflectiveOperationException {
        if (left == 0) {
            begin(town);
        }
        left--;
        made++;
        Object got;
        try {
            got = call.invoke(bets, arguments);
        } catch (InvocationTargetException thrown) {
            got = thrown.getCause();
        }
        Object due = twin.invoke(model, arguments);
        boolean same = due.equals(got) && bets.status() == model.status() && bets.count(5) == model.count(5);
        if (!same) {
            wrong++;
            System.out.println(call.getName() + Arrays.toString(arguments) + " in " + town + " answered " + got
                    + ", due is " + due);
        }
    }

    /** The town of a text, told and imaged, with rows of each lane that tell. */
    private void begin(String town) throws ReflectiveOperationException {
        bets = new NodBets();
        model = new Model();
        left = CALLS / 3;
        for (int i = 0; i < town.length(); i++) {
            both("feed", town.charAt(i));
        }
        both("town");
        both("image", 1);
        both("tell", 0, 0);
        both("tell", 1, 1);
        both("supper", 0);
        both("ask", 1, 0);
        both("row", 0, 2, 12);
        both("set", 0, 1, 1);
        both("set", 0, 2, 1);
        both("row", 1, 0, 3);
        both("set", 1, 0, -1);
        both("row", 6, 1, 40);
        both("set", 6, 39, 1);
        both("row", 7, 2, 0);
        both("feed", 't');
    }

    private void both(String name, int... numbers) throws ReflectiveOperationException {
        Object[] arguments = Arrays.stream(numbers).boxed().toArray();
        Class<?>[] types = new Class<?>[numbers.length];
        Arrays.fill(types, int.class);
        NodBets.class.getDeclaredMethod(name, types).invoke(bets, arguments);
        Model.class.getDeclaredMethod(name, types).invoke(model, arguments);
    }
}
