import java.lang.reflect.InvocationTargetException;
import java.lang.reflect.Method;
import java.lang.reflect.Modifier;
import java.util.ArrayList;
import java.util.Comparator;
import java.util.List;
import java.util.NoSuchElementException;
import java.util.Random;

/** Any call with any arguments in any state: nothing is thrown but by led. */
public final class AnyCallTest {
    private static final Due D = new Due("AnyCallTest");
    private static final int[] NUMBERS = {0, 1, 2, 3, 4, 5, 6, 7, 8, 9, 10, 11, 12, 15, 16, 19, 20, 31, 32, 33, 63, 64,
        99, 100, 1099, 1100, 1101, 65536, 65537, -1, -2, -3, -31, -32, -33, -64, 1 << 20, 1 << 30,
        Integer.MAX_VALUE, Integer.MIN_VALUE, Integer.MAX_VALUE - 1, Integer.MIN_VALUE + 1};

    public static void main(String[] args) {
        List<Method> calls = new ArrayList<>();
        for (Method m : GlassPost.class.getDeclaredMethods()) {
            if (Modifier.isPublic(m.getModifiers())) {
                calls.add(m);
            }
        }
        calls.sort(Comparator.comparing(Method::getName));
        for (int seed = 1; seed <= 1000; seed++) {
            run(calls, new Random(seed), seed);
        }
        D.end();
    }

    private static void run(List<Method> calls, Random random, int seed) {
        GlassPost g = new GlassPost();
        CityMaker maker = new CityMaker(seed);
        int used = 0;
        while (used < 450) {
            if (random.nextInt(60) == 0) {
                String text = maker.text(20);
                String told = random.nextBoolean() ? maker.spoilt(text) : text;
                Due.city(g, told);
                used += told.length() / 20 + 2;
            } else {
                call(g, calls.get(random.nextInt(calls.size())), random);
                used += 2;
            }
        }
    }

    private static void call(GlassPost g, Method m, Random random) {
        Object[] values = new Object[m.getParameterCount()];
        StringBuilder told = new StringBuilder(m.getName());
        for (int i = 0; i < values.length; i++) {
            boolean yesNo = m.getParameterTypes()[i] == boolean.class;
            int number = random.nextBoolean() ? random.nextInt(10) - 2 : NUMBERS[random.nextInt(NUMBERS.length)];
            values[i] = yesNo ? (Object) random.nextBoolean() : (Object) (random.nextInt(40) == 0 ? random.nextInt() : number);
            told.append(' ').append(values[i]);
        }
        boolean good = true;
        try {
            m.invoke(g, values);
        } catch (InvocationTargetException e) {
            good = m.getName().equals("led") && e.getCause().getClass() == NoSuchElementException.class;
            told.append(" threw ").append(e.getCause());
        } catch (IllegalAccessException e) {
            good = false;
        }
        D.due(told.toString(), good, true);
        int trouble = g.trouble();
        D.due("trouble " + trouble + " behind " + told, trouble >= 0 && trouble <= 6, true);
    }
}
