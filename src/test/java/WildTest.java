import java.lang.reflect.InvocationTargetException;
import java.lang.reflect.Method;
import java.lang.reflect.Modifier;
import java.util.ArrayList;
import java.util.Comparator;
import java.util.List;
import java.util.Random;

/** No call throws, for any arguments in any state, and what only asks changes nothing. */
public final class WildTest {
    private static final int[] EDGES = {Integer.MIN_VALUE, Integer.MIN_VALUE + 1, -1000, -3, -2, -1, 0, 1, 2, 3, 4, 5, 6,
        7, 8, 9, 10, 11, 12, 20, 21, 31, 32, 40, 41, 60, 61, 100, 101, 399, 400, 401, 9999, 10000, 65536,
        Integer.MAX_VALUE - 1, Integer.MAX_VALUE};
    private static final List<String> CHANGING = List.of("feed", "end", "yard", "rule", "force", "round", "bout", "pickle",
        "mend", "string", "undo", "note", "seed", "image", "back");

    public static void main(String[] args) throws Exception {
        List<Method> face = face();
        Due.due("methods of the face", face.size(), 36);
        Random random = new Random(11);
        for (int run = 0; run < 300; run++) {
            ConkerYard x = run % 10 == 0 ? new ConkerYard() : told(random);
            for (int call = 0; call < 400; call++) {
                ask(x, face.get(random.nextInt(face.size())), random);
            }
        }
        Due.close("WildTest");
    }

    private static List<Method> face() {
        List<Method> face = new ArrayList<>();
        for (Method method : ConkerYard.class.getDeclaredMethods()) {
            if (Modifier.isPublic(method.getModifiers())) {
                face.add(method);
            }
        }
        face.sort(Comparator.comparing(Method::getName));
        return face;
    }

    private static ConkerYard told(Random random) {
        StringBuilder text = new StringBuilder("yard " + (1 + random.nextInt(9)));
        for (int i = random.nextInt(9); i > 0; i--) {
            text.append(";conker ").append(1 + random.nextInt(30)).append(' ').append(1 + random.nextInt(20)).append(' ')
                .append(random.nextInt(21));
        }
        return Due.with(text.toString(), "hit 99999*99999*99999*99999*99999/0-struck%0;hit worth",
            "hit struck*8+striker if whole > 2;hit round%3 - 1", "hit 0-99999*99999*99999*99999*round");
    }

    private static int number(Random random) {
        return random.nextInt(8) == 0 ? random.nextInt() : random.nextInt(3) == 0 ? random.nextInt(9)
            : EDGES[random.nextInt(EDGES.length)];
    }

    private static void ask(ConkerYard x, Method method, Random random) throws IllegalAccessException {
        Object[] numbers = new Object[method.getParameterCount()];
        StringBuilder call = new StringBuilder(method.getName());
        for (int i = 0; i < numbers.length; i++) {
            numbers[i] = number(random);
            call.append(' ').append(numbers[i]);
        }
        boolean asks = !CHANGING.contains(method.getName());
        long before = asks ? seen(x) : 0;
        boolean answered = true;
        try {
            method.invoke(x, numbers);
        } catch (InvocationTargetException thrown) {
            answered = false;
            call.append(" threw ").append(thrown.getCause());
        }
        Due.holds(call.toString(), answered);
        if (asks) {
            Due.holds(call + " changed something", before == seen(x));
        }
    }

    private static long seen(ConkerYard x) {
        long seen = 17;
        for (int what = 0; what < 12; what++) {
            seen = seen * 31 + x.count(what);
        }
        for (int conker = 0; conker < 8; conker++) {
            for (int what = 0; what < 5; what++) {
                seen = seen * 31 + x.conker(conker, what);
            }
        }
        return seen;
    }
}
