import java.util.function.IntSupplier;

/**
 * All that a tower shows, and what it would answer next: what can't be asked for without a change (the draft,
 * songs, bots, what is not polled yet, what they were told, how much room is left) is asked of forks of it.
 */
final class Depths {
    private Depths() {
    }

    static String of(Taped tower) {
        return Suite.look(tower) + draft(tower.fork()) + songsAndBots(tower.fork()) + polls(tower.fork())
                + later(tower.fork()) + asks(tower.fork()) + loads(tower.fork());
    }

    private static String draft(Taped fork) {
        String room = "\ndraft" + untilRefused(11, () -> fork.talk(1));
        return room + "\nmade" + answer(() -> fork.item(0, fork.hour())) + Suite.look(fork);
    }

    private static String songsAndBots(Taped fork) {
        StringBuilder text = new StringBuilder("\nsongs, bots");
        for (int i = 0; i < 10; i++) {
            int at = i;
            text.append(answer(() -> fork.songOut(at))).append(fork.bot(at, false) ? " bot" : " -");
        }
        return text.append(Suite.look(fork)).toString();
    }

    private static String polls(Taped fork) {
        StringBuilder text = new StringBuilder("\npolls");
        for (int i = 0; i < 6; i++) {
            int app = i;
            text.append(answer(() -> fork.poll(app)));
            if (!text.toString().endsWith("Exception")) {
                text.append(" told").append(Suite.told(fork, app));
            }
        }
        return text.toString();
    }

    private static String later(Taped fork) {
        return "\nlater" + answer(() -> fork.pass(1)) + answer(() -> fork.pass(30)) + polls(fork) + Suite.look(fork);
    }

    private static String asks(Taped fork) {
        StringBuilder text = new StringBuilder("\nroom" + untilRefused(7, () -> fork.app(0))
                + untilRefused(9, () -> fork.campaign(0, 4, 5, fork.hour(), 9999, 1, 1)));
        for (int i = 0; i < 24; i++) {
            int at = i;
            text.append(answer(() -> fork.ask(at % 10, at)));
        }
        return text.append(Suite.look(fork)).toString();
    }

    private static String loads(Taped fork) {
        StringBuilder text = new StringBuilder("\nloads");
        for (int i = 0; i < 60; i++) {
            int at = i;
            text.append(answer(() -> fork.load(at, 0, fork.ofDownload(at, 3))));
        }
        return text + Suite.look(fork) + untilRefused(201, () -> fork.load(0, 0, 1));
    }

    private static String untilRefused(int most, IntSupplier call) {
        int answered = 0;
        String last = "";
        while (answered < most && !last.endsWith("Exception")) {
            last = answer(call);
            answered++;
        }
        return " " + answered + last;
    }

    private static String answer(IntSupplier call) {
        try {
            return " " + call.getAsInt();
        } catch (RuntimeException refused) {
            return " " + refused.getClass().getSimpleName();
        }
    }
}
