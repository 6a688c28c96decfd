import java.lang.reflect.InvocationTargetException;
import java.lang.reflect.Method;
import java.util.Arrays;
import java.util.Random;

/** No call throws, whatever it is given and whatever stands. */
public final class ExtremesTest {
    private static final int[] NUMBERS = {Integer.MIN_VALUE, Integer.MIN_VALUE + 1, -256, -21, -13, -4, -3, -2, -1, 0, 1, 2, 3, 4,
        5, 6, 7, 8, 9, 11, 12, 13, 15, 16, 17, 20, 21, 63, 64, 119, 120, 121, 255, 4095, 4096, 65535, 1 << 30,
        Integer.MAX_VALUE - 1, Integer.MAX_VALUE};

    public static void main(String[] args) throws IllegalAccessException {
        Check check = new Check();
        Method[] calls = TurnDoor.class.getDeclaredMethods();
        Arrays.sort(calls, (a, b) -> a.getName().compareTo(b.getName()));
        Random random = new Random(7);
        for (int run = 0; run < 120; run++) {
            TurnDoor door = run % 3 == 0 ? new TurnDoor() : Check.withPeople("0sw;1hb;2st;3hc;4sh;4sd;7hd;9sb");
            // beside the five calls by which people came
            for (int i = 0; i < 507; i++) {
                Method call = calls[random.nextInt(calls.length)];
                if (!java.lang.reflect.Modifier.isPublic(call.getModifiers())) {
                    continue;
                }
                Object[] given = new Object[call.getParameterCount()];
                for (int k = 0; k < given.length; k++) {
                    int v = NUMBERS[random.nextInt(NUMBERS.length)];
                    v = random.nextInt(3) == 0 ? v : random.nextInt(4);
                    given[k] = call.getParameterTypes()[k] == long.class ? (Object) random.nextLong() : (Object) v;
                }
                try {
                    call.invoke(door, given);
                    check.holds(call.getName(), true);
                } catch (InvocationTargetException e) {
                    check.holds(call.getName() + Arrays.toString(given) + " throws " + e.getCause(), false);
                }
            }
        }
        check.end("ExtremesTest");
    }
}
