import java.lang.reflect.InvocationTargetException;
import java.lang.reflect.Method;
import java.lang.reflect.Modifier;
import java.util.Random;

/**
 * Every call with bounds and numbers far beyond them told together: each is answered, none throws, and the answer
 * is that of the second reading.
 */
public final class AnyNumbersTest {
    private static final int MIN = Integer.MIN_VALUE, MAX = Integer.MAX_VALUE;
    private static final int[] NUMBERS = {
        MIN, MIN + 1, -65536, -2, -1, 0, 1, 2, 4, 5, 8, 9, 12, 15, 16, 24, 30, 40, 41, 60, 61, 255, 256, 65535, 65536,
        999999, 1000000, MAX - 1, MAX};
    private static final int[] FEWER = {MIN, -1, 0, 1, 2, 5, 6, 8, 15, 16, 24, 25, 60, 61, 65535, 65536, 999999, MAX};
    private static final int DRAWN = 6000, MOST_CALLS = 400;
    private static final String SHORT_LIVED = "w3,9;f0,1,1,0;m3,8,1,9;";
    private static final String FIVE = "w5,13;b2,4,9,3;a11,1,44,3;f6,2,7,1;c13,3,25,1;m0,5,18,6;";
    private static final String[] STATES = {"none", "five", "gone", "late"};

    private SignedClouds one;
    private PlainClouds other;
    private int left;
    private long made;
    private long wrong;

    public static void main(String[] args) throws ReflectiveOperationException {
        AnyNumbersTest test = new AnyNumbersTest();
        for (String state : STATES) {
            test.all(state);
        }
        System.out.println(test.made + " answers looked at, " + test.wrong + " wrong");
        if (test.wrong != 0 || test.made == 0) {
            System.exit(1);
        }
    }

    private void all(String state) throws ReflectiveOperationException {
        for (Method m : SignedClouds.class.getDeclaredMethods()) {
            if (Modifier.isPublic(m.getModifiers())) {
                left = 0;
                int many = m.getParameterCount();
                int[] from = many < 3 ? NUMBERS : FEWER;
                if (many <= 3) {
                    each(state, m, new Object[many], 0, from);
                } else {
                    byDraws(state, m);
                }
            }
        }
    }

    private void each(String state, Method m, Object[] told, int at, int[] from) throws ReflectiveOperationException {
        if (at == told.length) {
            same(state, m, told);
            return;
        }
        for (int number : from) {
            told[at] = number;
            each(state, m, told, at + 1, from);
        }
    }

    private void byDraws(String state, Method m) throws ReflectiveOperationException {
        Random draws = new Random(m.getName().hashCode());
        Object[] told = new Object[m.getParameterCount()];
        for (int n = 0; n < DRAWN; n++) {
            for (int k = 0; k < told.length; k++) {
                told[k] = draws.nextInt(4) == 0 ? FEWER[draws.nextInt(FEWER.length)] : draws.nextInt(4);
            }
            same(state, m, told);
        }
    }

    private void same(String state, Method m, Object[] told) throws ReflectiveOperationException {
        if (left == 0) {
            begin(state);
        }
        left--;
        made++;
        long want = ((Number) PlainClouds.class.getMethod(m.getName(), m.getParameterTypes()).invoke(other, told)).longValue();
        String call = m.getName() + java.util.Arrays.toString(told) + " (" + state + ")";
        try {
            long got = ((Number) m.invoke(one, told)).longValue();
            if (got != want) {
                wrong++;
                System.out.println(call + " answered " + got + ", due is " + want);
            }
        } catch (InvocationTargetException e) {
            wrong++;
            System.out.println(call + " threw " + e.getCause());
        }
    }

    /** Both objects anew, in one of the states; ROWS 0 to 2 are of 3, 12 and 40 ITEMS. */
    private void begin(String state) {
        one = new SignedClouds();
        other = new PlainClouds();
        left = MOST_CALLS;
        for (int row = 0; row < 3; row++) {
            int n = row == 0 ? 3 : row == 1 ? 12 : 40;
            one.row(row, row / 2, n);
            other.row(row, row / 2, n);
        }
        if (!state.equals("none")) {
            for (char letter : (state.equals("gone") ? SHORT_LIVED : FIVE).toCharArray()) {
                one.feed(letter);
                other.feed(letter);
            }
            one.sky();
            other.sky();
        }
        for (int n = state.equals("late") ? 41 : state.equals("gone") ? 1 : 0; n > 0; n--) {
            one.days(24);
            other.days(24);
        }
    }
}
