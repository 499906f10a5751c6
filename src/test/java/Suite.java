import java.util.function.BooleanSupplier;
import java.util.function.IntSupplier;

/** What the tests share: answers that are due, exceptions that are due, and all that a tower shows. */
final class Suite {
    static final Class<IndexOutOfBoundsException> INDEX = IndexOutOfBoundsException.class;
    static final Class<IllegalArgumentException> ARGUMENT = IllegalArgumentException.class;
    static final Class<IllegalStateException> STATE = IllegalStateException.class;
    static final int[] FAR_OUT = {Integer.MIN_VALUE, Integer.MIN_VALUE + 1, -1000, -2, -1, 10000, Integer.MAX_VALUE - 1, Integer.MAX_VALUE};

    private static int passed = 0;
    private static int failed = 0;
    private static String words = "";

    private Suite() {
    }

    static void is(String what, int want, int got) {
        tell(want == got, what + " answered " + got + ", due is " + want);
    }

    static void is(String what, boolean want, boolean got) {
        tell(want == got, what + " answered " + got + ", due is " + want);
    }

    static void is(String what, String want, String got) {
        tell(want.equals(got), what + " answered " + got + ", due is " + want);
    }

    static void tell(boolean right, String fault) {
        if (right) {
            passed++;
        } else {
            failed++;
            System.out.println("WRONG: " + words + fault);
        }
    }

    /** What is told from here on is told of these words of the document. */
    static void of(String ofWords) {
        words = ofWords;
    }

    static int checks() {
        return passed + failed;
    }

    /** The call throws exactly this exception, by a throw of the class itself, and it changes nothing. */
    static void refuses(Taped tower, String what, Class<? extends RuntimeException> want, IntSupplier call) {
        String before = Depths.of(tower);
        RuntimeException thrown = null;
        try {
            call.getAsInt();
        } catch (RuntimeException e) {
            thrown = e;
        }
        if (thrown == null) {
            tell(false, what + " threw nothing, due is " + want.getName());
        } else {
            tell(thrown.getClass() == want, what + " threw " + thrown + ", due is " + want.getName());
            tell(isThrownByTower(thrown), what + " was thrown by the machine or the library: " + thrown);
        }
        is("the tower after " + what, before, Depths.of(tower));
    }

    static void refusesTest(Taped tower, String what, Class<? extends RuntimeException> want, BooleanSupplier call) {
        refuses(tower, what, want, () -> call.getAsBoolean() ? 1 : 0);
    }

    static boolean isThrownByTower(RuntimeException thrown) {
        StackTraceElement[] trace = thrown.getStackTrace();
        return trace.length > 0 && trace[0].getClassName().startsWith("FeedTower");
    }

    static void end(String name) {
        System.out.println(name + ": " + passed + " passed, " + failed + " failed");
        if (failed > 0 || passed == 0) {
            System.exit(1);
        }
    }

    /** All that can be asked of a tower without a change. */
    static String look(Taped tower) {
        StringBuilder all = new StringBuilder("hour " + tower.hour());
        for (int i = 0; i < sizeOf(at -> tower.ofItem(at, 0)); i++) {
            all.append("\nitem ").append(i).append(':').append(item(tower, i));
            for (int listener = 0; listener < 10; listener++) {
                all.append(tower.isOwed(i, listener) ? " owed" : " -");
            }
        }
        for (int i = 0; i < sizeOf(at -> tower.told(at, 0)); i++) {
            all.append("\napp ").append(i).append(':').append(told(tower, i));
        }
        for (int i = 0; i < sizeOf(at -> tower.ofCampaign(at, 0)); i++) {
            all.append("\ncampaign ").append(i).append(':').append(campaign(tower, i));
        }
        for (int i = 0; i < sizeOf(at -> tower.ofDownload(at, 0)); i++) {
            all.append("\ndownload ").append(i).append(':').append(download(tower, i));
        }
        return all.toString();
    }

    static String item(Taped tower, int item) {
        StringBuilder text = new StringBuilder();
        for (int what = 0; what <= 7; what++) {
            text.append(' ').append(tower.ofItem(item, what));
        }
        for (int part = 0; part < tower.ofItem(item, 4); part++) {
            text.append(" /").append(part(tower, item, part));
        }
        return text.append(" counts ").append(tower.count(item, 0)).append(' ').append(tower.count(item, 1)).toString();
    }

    static String part(Taped tower, int item, int part) {
        return " " + tower.ofPart(item, part, 0) + " " + tower.ofPart(item, part, 1)
                + " " + tower.ofPart(item, part, 2) + " " + tower.ofPart(item, part, 3);
    }

    /** The items that an app was told as it polled last. */
    static String told(Taped tower, int app) {
        StringBuilder text = new StringBuilder();
        for (int at = 0; at < 30; at++) {
            int item = tower.told(app, at);
            if (item != -1) {
                text.append(' ').append(item);
            } else if (tower.told(app, at + 1) != -1) {
                text.append(" GAP");
            }
        }
        return text.toString();
    }

    static String campaign(Taped tower, int campaign) {
        return " " + tower.ofCampaign(campaign, 0) + " " + tower.ofCampaign(campaign, 1)
                + " " + tower.ofCampaign(campaign, 2);
    }

    static String download(Taped tower, int download) {
        StringBuilder text = new StringBuilder();
        for (int what = 0; what <= 6; what++) {
            text.append(' ').append(tower.ofDownload(download, what));
        }
        return text.append(" ads").append(ads(tower, download)).append(" anew ").append(tower.loadedAnew(download))
                .append(tower.counts(download, 0) ? " loose" : " -").append(tower.counts(download, 1) ? " strict" : " -")
                .toString();
    }

    static String ads(Taped tower, int download) {
        StringBuilder text = new StringBuilder();
        for (int at = 0; at < tower.ofDownload(download, 5); at++) {
            text.append(' ').append(tower.ad(download, at));
        }
        return text.toString();
    }

    private interface Asked {
        void of(int at);
    }

    private static int sizeOf(Asked asked) {
        int size = 0;
        try {
            while (size < 100) {
                asked.of(size);
                size++;
            }
        } catch (IndexOutOfBoundsException end) {
            return size;
        }
        return size;
    }
}
