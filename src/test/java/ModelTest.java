import java.lang.reflect.InvocationTargetException;
import java.lang.reflect.Method;
import java.util.Arrays;
import java.util.LinkedHashMap;
import java.util.Map;
import java.util.Random;

/** Long runs of calls, the same each time, on FeedTower and on PlainTower: every answer must be the same. */
public final class ModelTest {
    private static final int RUNS = 600;
    private static final int CALLS = 500;
    private static final int[] ODD = {Integer.MIN_VALUE, -2, -1, Integer.MAX_VALUE, 1 << 30, 10000};

    private static final Map<String, Method> OF_TOWER = methods(Taped.class);
    private static final Map<String, Method> OF_PLAIN = methods(PlainTower.class);

    private final Random chance;
    private final Taped tower = new Taped();
    private final PlainTower plain = new PlainTower();
    private final StringBuilder story = new StringBuilder();
    private final int kind;
    private final int queries;
    private int items = 0;
    private int apps = 0;
    private int campaigns = 0;
    private int downloads = 0;
    private String same = "same";

    private ModelTest(int seed) {
        chance = new Random(seed);
        kind = seed % 6;
        queries = 3 + seed % 4;
    }

    public static void main(String[] args) {
        for (int seed = 0; seed < RUNS; seed++) {
            ModelTest run = new ModelTest(seed);
            run.play();
            Suite.is("run " + seed + run.story, "same", run.same);
            if (!run.same.equals("same")) {
                break;
            }
        }
        Suite.end("ModelTest");
    }

    private void play() {
        for (int i = 0; i < CALLS && same.equals("same"); i++) {
            if (chance.nextInt(queries) == 0) {
                query();
            } else {
                change();
            }
        }
        if (same.equals("same")) {
            story.setLength(0);
            lookAtAll();
        }
    }

    private void change() {
        // a kind of run is heavy on some calls, so that each limit is met in some runs
        int[][] weights = {
            {10, 8, 8, 14, 8, 2, 2, 10, 3, 6, 3, 12, 14, 3, 5},
            {14, 14, 6, 20, 14, 6, 3, 10, 5, 20, 0, 4, 4, 1, 3},
            {2, 2, 16, 6, 2, 1, 1, 8, 1, 1, 6, 40, 10, 2, 1},
            {8, 4, 4, 6, 3, 1, 1, 2, 1, 1, 2, 14, 90, 3, 8},
            {8, 8, 4, 5, 4, 1, 1, 5, 1, 1, 1, 20, 30, 8, 10},
            {9, 9, 9, 9, 9, 1, 2, 9, 9, 9, 9, 9, 9, 9, 9},
        };
        switch (pick(weights[kind])) {
            case 0: both("talk", seconds(999)); break;
            case 1: both("music", number(10), seconds(300)); break;
            case 2: both("slot", number(3)); break;
            case 3: item(); break;
            case 4: both("cut", number(items), number(10)); break;
            case 5: both("withdraw", number(items)); break;
            case 6: both("songOut", number(10)); break;
            case 7: both("pass", chance.nextInt(20) == 0 ? among(1, 999, 500) : among(1, 1, 2, 3, 11, 12, 23, 24, 25)); break;
            case 8: apps += both("app", number(4)) ? 1 : 0; break;
            case 9: both("poll", number(apps)); break;
            case 10: campaign(); break;
            case 11: downloads += both("ask", number(chance.nextBoolean() ? 2 : 10), number(items)) ? 1 : 0; break;
            case 12: load(); break;
            case 13: bot(); break;
            default: both("tell", number(items), number(chance.nextBoolean() ? 2 : 10)); break;
        }
    }

    private void query() {
        switch (chance.nextInt(11)) {
            case 0: both("hour"); break;
            case 1: both("ofItem", number(items), number(8)); break;
            case 2: both("ofPart", number(items), number(10), number(4)); break;
            case 3: both("told", number(apps), number(8)); break;
            case 4: both("ofCampaign", number(campaigns), number(3)); break;
            case 5: both("ofDownload", number(downloads), number(7)); break;
            case 6: both("ad", number(downloads), number(10)); break;
            case 7: both("loadedAnew", number(downloads)); break;
            case 8: both("counts", number(downloads), number(2)); break;
            case 9: both("count", number(items), number(2)); break;
            default: both("isOwed", number(items), number(10)); break;
        }
    }

    private void item() {
        int hour = chance.nextInt(3) == 0 ? tower.hour() + chance.nextInt(20) : tower.hour();
        int odd = chance.nextInt(40) == 0 ? among(9999, 10000, tower.hour() - 1) : hour;
        items += both("item", number(4), odd) ? 1 : 0;
    }

    private void campaign() {
        int from = Math.max(0, tower.hour() - 5 + chance.nextInt(10));
        int to = from + 1 + chance.nextInt(chance.nextBoolean() ? 40 : 400);
        int group = number(chance.nextBoolean() ? 2 : 5);
        int seconds = chance.nextInt(20) == 0 ? among(4, 5, 60, 61) : 5 + chance.nextInt(8);
        int many = chance.nextInt(20) == 0 ? among(0, 1, 99, 100) : 1 + chance.nextInt(99);
        int daily = chance.nextInt(20) == 0 ? among(0, 4) : 1 + chance.nextInt(3);
        if (chance.nextInt(20) == 0) {
            from = among(-1, 9998, 9999, from);
            to = among(from, from - 1, 9999, 10000);
        }
        campaigns += both("campaign", number(chance.nextBoolean() ? 1 : 3), group, seconds, from, to, many, daily) ? 1 : 0;
    }

    private void load() {
        int download = number(downloads);
        if (download < 0 || download >= downloads) {
            both("load", download, 0, 1);
            return;
        }
        int all = tower.ofDownload(download, 3);
        int a = chance.nextInt(all + 1);
        int b = chance.nextInt(3) == 0 ? Math.min(all, a + 1 + chance.nextInt(9)) : chance.nextInt(all + 1);
        int from = chance.nextInt(4) == 0 ? 0 : Math.min(a, b);
        int to = chance.nextInt(3) == 0 ? all : Math.max(a, b);
        if (chance.nextInt(30) == 0) {
            from = among(ODD);
        }
        if (chance.nextInt(30) == 0) {
            to = among(all + 1, from, ODD[chance.nextInt(ODD.length)]);
        }
        both("load", download, from, to);
    }

    private void bot() {
        int listener = number(10);
        boolean is = chance.nextBoolean();
        compare("bot", listener, is);
    }

    /** Mostly one that there is; now and then one beside it, or far out. */
    private int number(int size) {
        int roll = chance.nextInt(60);
        if (roll == 0) {
            return among(ODD);
        }
        if (roll == 1) {
            return size;
        }
        return chance.nextInt(Math.max(1, size));
    }

    private int seconds(int most) {
        int roll = chance.nextInt(30);
        if (roll == 0) {
            return among(0, most + 1, -1);
        }
        if (roll == 1) {
            return among(1, most, 60, 59, 61);
        }
        return 1 + chance.nextInt(kind == 4 ? 9 : 45);
    }

    private int among(int... of) {
        return of[chance.nextInt(of.length)];
    }

    private int pick(int[] weights) {
        int at = chance.nextInt(Arrays.stream(weights).sum());
        int place = 0;
        while (at >= weights[place]) {
            at -= weights[place];
            place++;
        }
        return place;
    }

    private boolean both(String name, int... args) {
        Object[] boxed = new Object[args.length];
        for (int i = 0; i < args.length; i++) {
            boxed[i] = args[i];
        }
        return compare(name, boxed);
    }

    /** Calls both; tells whether they answered without an exception. */
    private boolean compare(String name, Object... args) {
        String got = answer(OF_TOWER.get(name), tower, args);
        String want = answer(OF_PLAIN.get(name), plain, args);
        if (same.equals("same")) {
            story.append("\n  ").append(name).append(Arrays.toString(args)).append(" -> ").append(got);
            same = got.equals(want) ? "same" : name + Arrays.toString(args) + " answered " + got + ", due is " + want;
        }
        return !want.startsWith("throws");
    }

    private static String answer(Method method, Object on, Object[] args) {
        try {
            return String.valueOf(method.invoke(on, args));
        } catch (InvocationTargetException e) {
            Throwable thrown = e.getCause();
            boolean byItself = on instanceof Taped && !Suite.isThrownByTower((RuntimeException) thrown);
            return "throws " + thrown.getClass().getName() + (byItself ? " by the machine" : "");
        } catch (IllegalAccessException e) {
            throw new IllegalStateException(e);
        }
    }

    private void lookAtAll() {
        for (int i = 0; i < items; i++) {
            all("ofItem", 8, i);
            all("count", 2, i);
            all("isOwed", 10, i);
            for (int part = 0; part < 10; part++) {
                all("ofPart", 4, i, part);
            }
        }
        for (int i = 0; i < apps; i++) {
            all("told", 26, i);
        }
        for (int i = 0; i < campaigns; i++) {
            all("ofCampaign", 3, i);
        }
        for (int i = 0; i < downloads; i++) {
            all("ofDownload", 7, i);
            all("counts", 2, i);
            all("ad", 10, i);
            both("loadedAnew", i);
        }
        for (int i = 0; i < apps; i++) {
            both("poll", i);
            all("told", 26, i);
        }
    }

    private void all(String name, int size, int... first) {
        for (int last = 0; last < size; last++) {
            int[] args = Arrays.copyOf(first, first.length + 1);
            args[first.length] = last;
            both(name, args);
        }
    }

    private static Map<String, Method> methods(Class<?> of) {
        Map<String, Method> all = new LinkedHashMap<>();
        for (Method method : of.getDeclaredMethods()) {
            if (java.lang.reflect.Modifier.isPublic(method.getModifiers())) {
                all.put(method.getName(), method);
            }
        }
        return all;
    }
}
