import java.lang.reflect.InvocationTargetException;
import java.lang.reflect.Method;
import java.lang.reflect.Modifier;
import java.util.ArrayList;
import java.util.Arrays;
import java.util.List;
import java.util.Random;

/** Whatever is called, with whatever numbers, throws nothing but what its own face declares, and by a throw of its own. */
public final class AnyCallTest {
    private static final int OBJECTS = 400;
    private static final int CALLS = 512;
    private static final int[] FAR = {Integer.MIN_VALUE, -1000, -17, -2, -1, 16, 17, 32, 999, 1000, 65536, Integer.MAX_VALUE};
    private static final String KINDS = "rwk+m=<jsnfytiodzh?";

    private final Random random;
    private final Ticketdoor x = new Ticketdoor();
    private final List<Method> methods = new ArrayList<>();

    private AnyCallTest(int seed) {
        random = new Random(seed);
        Method[] all = Ticketdoor.class.getDeclaredMethods();
        Arrays.sort(all, (one, other) -> one.getName().compareTo(other.getName()));
        for (Method method : all) {
            int often = Modifier.isPublic(method.getModifiers()) ? often(method.getName()) : 0;
            for (int time = 0; time < often; time++) {
                methods.add(method);
            }
        }
    }

    private static int often(String name) {
        return switch (name) {
            case "addStep", "act" -> 80;
            case "addCall", "flush" -> 20;
            case "dropSteps", "dropCalls", "setBuffers", "setDeath", "start" -> 1;
            default -> 4;
        };
    }

    public static void main(String[] args) throws IllegalAccessException {
        for (int seed = 0; seed < OBJECTS; seed++) {
            AnyCallTest test = new AnyCallTest(seed);
            for (int call = 0; call < CALLS; call++) {
                test.call(test.methods.get(test.random.nextInt(test.methods.size())));
            }
            Check.due("sound behind all calls of " + seed, true, test.x::isSound);
        }
        Check.finish("AnyCallTest");
    }

    private void call(Method method) throws IllegalAccessException {
        Class<?>[] types = method.getParameterTypes();
        Object[] values = new Object[types.length];
        for (int index = 0; index < types.length; index++) {
            values[index] = types[index] == boolean.class ? (Object) random.nextBoolean()
                    : types[index] == char.class ? (Object) kind(method.getName().equals("addCall") ? "wred?" : KINDS)
                    : (Object) number(method, index);
        }
        String told = method.getName() + Arrays.toString(values);
        try {
            method.invoke(x, values);
            Check.that(told, true);
        } catch (InvocationTargetException e) {
            Throwable thrown = e.getCause();
            Check.that(told + " declares " + thrown, List.of(method.getExceptionTypes()).contains(thrown.getClass()));
            Check.that(told + " is no division by 0", !"/ by zero".equals(thrown.getMessage()));
            Check.that(told + " is thrown by itself",
                    thrown.getStackTrace()[0].getClassName().startsWith("Ticketdoor"));
        }
    }

    private char kind(String kinds) {
        return random.nextInt(50) == 0 ? (char) random.nextInt(65536) : kinds.charAt(random.nextInt(kinds.length()));
    }

    /** Mostly what fits, so that objects come to be full of words, hands, steps and calls. */
    private int number(Method method, int index) {
        if (random.nextInt(25) == 0) {
            return FAR[random.nextInt(FAR.length)];
        }
        if (method.getName().equals("addStep") && index > 1) {
            return random.nextInt(3) == 0 ? random.nextInt(3) : 0;
        }
        if (method.getName().equals("setDeath") && index == 1) {
            return random.nextInt(18) - 1;
        }
        if (method.getName().equals("act") && index == 1) {
            return random.nextInt(4) == 0 ? random.nextInt(4) : 0;
        }
        return random.nextInt(method.getName().equals("addCall") ? 12 : random.nextInt(6) == 0 ? 4 : 2);
    }
}
