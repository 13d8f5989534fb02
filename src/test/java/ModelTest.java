import java.lang.reflect.InvocationTargetException;
import java.lang.reflect.Method;
import java.util.ArrayList;
import java.util.List;
import java.util.Random;

/** Runs of made-up calls, at most 512 on one object, each answered by the class and by the model. */
public final class ModelTest {
    private static final int RUNS = 600;
    /** Each call with the least and the most of each argument; some arguments are told wrongly on purpose. */
    private static final String[] CALLS = {
        "roller 0 5 1 299", "of 0 7 0 6", "set 0 7 1 6 0 99", "set 0 7 2 2 0 9", "set 0 7 3 3 1 99", "set 0 7 4 4 0 999", "set 0 7 6 6 -1 5",
        "set 0 7 1 1 1 299", "as 0 7 0 5", "log 0 4 0 99", "log 0 0 1 20", "log 3 3 0 60", "log 4 4 0 100", "log 1 2 0 20",
        "push 0 7 -60 60 -60 60 0 999 0 40", "push 0 7 -9999 9999 -999 999 0 9 0 999",
        "mount 0 7 0 7", "mount 0 3 4 7", "off", "bout 1 400", "bout 1 9", "bout 1 3", "stands 0 1 0 5", "stands 0 1 0 5", "stands 0 1 0 5", "now 0 2", "now 0 2",
        "seed -2147483648 2147483647", "ahead 0 7 0 7 1 200 0 4", "best 0 7 0 7 1 200", "light 0 7 0 7 1 100", "late 0 7 0 7 1 200",
        "swing 0 7 0 7 2 200 0 2", "swing 0 7 0 7 2 20 0 2", "beats 0 7 1 100", "five 0 7 0 7 1 100", "champion 1 50",
        "feed -2147483648 2147483647 1 4", "wipe", "way", "rules 0 5", "holds 0 5 -60 60 -60 60 0 400 0 200",
        "sheet 0 3 8 8 0 40", "sheet 0 3 16 16 0 40", "sheet 0 3 64 64 0 40", "sheet 0 3 0 0 0 40", "write 0 3 0 39 -70000 70000",
        "copy 0 3 0 20 0 3 0 20 0 20", "film 0 3 0 7 0 7", "read 0 3 0 7 0 7", "image", "undo", "tear", "count 0 5", "status -1 6",
    };
    private static final int[] WILD = {-1, 0, 1, 5, 6, 7, 8, 40, 41, 100, 101, 200, 201, 299, 300, 999, 1000, Integer.MIN_VALUE, Integer.MAX_VALUE, -2};
    private static final String[] PIECES = {"turn", "lean", "left", "tick", "else", "run", "check", "back", "wait", "hop",
        "<", ">", "-", ":", ";", " ", "0", "7", "999", "1000", "x", "!", "turn<4:", "else:run", "lean>-3:hop;"};

    private final Random random;
    private final LogRollers real = new LogRollers();
    private final Model model = new Model();
    private final List<String> made = new ArrayList<>();
    private int calls = 0;

    private ModelTest(long seed) {
        random = new Random(seed);
    }

    public static void main(String[] args) throws Exception {
        for (int run = 0; run < RUNS; run++) {
            if (!new ModelTest(run).isSame()) {
                System.out.println("run " + run + " differs");
                Check.due("run " + run, 0, 1);
                break;
            }
            Check.due("run " + run, 0, 0);
        }
        Check.end();
    }

    private boolean isSame() throws Exception {
        int people = random.nextInt(9);
        for (int i = 0; i < people; i++) {
            if (!ask("roller", random.nextInt(6), 1 + random.nextInt(299))) {
                return false;
            }
        }
        boolean isTame = random.nextBoolean();
        // The last step may be a text, which takes some 40 calls.
        while (calls < 470) {
            boolean isFine = random.nextInt(20) == 0 ? tellWay() : askSome(isTame);
            if (!isFine) {
                made.forEach(System.out::println);
                return false;
            }
        }
        return true;
    }

    private boolean askSome(boolean isTame) throws Exception {
        String[] words = CALLS[random.nextInt(CALLS.length)].split(" ");
        long[] args = new long[(words.length - 1) / 2];
        for (int i = 0; i < args.length; i++) {
            long least = Long.parseLong(words[1 + 2 * i]);
            long most = Long.parseLong(words[2 + 2 * i]);
            args[i] = least + Math.floorMod(random.nextLong(), most - least + 1);
            if (!isTame && random.nextInt(25) == 0) {
                args[i] = WILD[random.nextInt(WILD.length)];
            }
        }
        return ask(words[0], args);
    }

    private boolean tellWay() throws Exception {
        String text = random.nextInt(3) == 0 ? scrap() : text();
        boolean isFine = random.nextInt(4) == 0 || ask("wipe");
        for (int i = 0; i < text.length() && isFine; i += 4) {
            String part = text.substring(i, Math.min(i + 4, text.length()));
            int bytes = 0;
            for (int k = 0; k < part.length(); k++) {
                bytes = bytes << 8 | part.charAt(k);
            }
            isFine = ask("feed", bytes, part.length());
        }
        return isFine && ask("way");
    }

    private String scrap() {
        StringBuilder b = new StringBuilder();
        int n = random.nextInt(12);
        for (int i = 0; i < n; i++) {
            b.append(PIECES[random.nextInt(PIECES.length)]);
        }
        return b.toString();
    }

    private String text() {
        StringBuilder b = new StringBuilder();
        int n = 1 + random.nextInt(random.nextInt(4) == 0 ? 7 : 4);
        for (int i = 0; i < n; i++) {
            b.append(i == 0 ? "" : ";");
            String blank = random.nextInt(6) == 0 ? " " : "";
            if (random.nextInt(5) == 0) {
                b.append("else").append(blank);
            } else {
                b.append(PIECES[random.nextInt(4)]).append(blank).append(random.nextBoolean() ? '<' : '>').append(blank);
                b.append(random.nextInt(3) == 0 ? "-" : "").append(random.nextInt(random.nextInt(9) == 0 ? 1100 : 40));
            }
            b.append(':').append(blank).append(PIECES[5 + random.nextInt(5)]);
        }
        if (random.nextInt(6) == 0) {
            b.setCharAt(random.nextInt(b.length()), (char) random.nextInt(256));
        }
        return b.toString();
    }

    private boolean ask(String name, long... args) throws Exception {
        calls++;
        long got = answer(real, name, args);
        long want = answer(model, name, args);
        made.add(name + java.util.Arrays.toString(args) + " answered " + got + ", due is " + want);
        return got == want;
    }

    private static long answer(Object on, String name, long[] args) throws Exception {
        for (Method m : on.getClass().getDeclaredMethods()) {
            if (m.getName().equals(name) && java.lang.reflect.Modifier.isPublic(m.getModifiers())) {
                Object[] boxed = new Object[args.length];
                for (int i = 0; i < args.length; i++) {
                    boxed[i] = m.getParameterTypes()[i] == long.class ? (Object) args[i] : (Object) (int) args[i];
                }
                try {
                    return ((Number) m.invoke(on, boxed)).longValue();
                } catch (InvocationTargetException e) {
                    throw new IllegalStateException(name + java.util.Arrays.toString(args), e.getCause());
                }
            }
        }
        throw new IllegalStateException("no " + name);
    }
}
