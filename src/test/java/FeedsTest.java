/** Promises 10, 11 and 20: apps, polls and what they were told; and what a change is. */
public final class FeedsTest {
    public static void main(String[] args) {
        app();
        pollRefuses();
        told();
        firstPollTellsAll();
        releasesComeByHourThenNumber();
        orderOfTheFirstChangeSince();
        eachChangeIsTold();
        nothingOfOneThatIsNotReleased();
        songsByNumbers();
        songOfAWithdrawnOne();
        whatIsNoChange();
        appsPollForThemselves();
        Suite.end("FeedsTest");
    }

    private static void app() {
        Taped tower = new Taped();
        for (int far : Suite.FAR_OUT) {
            Suite.refuses(tower, "app(" + far + ")", Suite.INDEX, () -> tower.app(far));
        }
        Suite.refuses(tower, "app(4)", Suite.INDEX, () -> tower.app(4));
        for (int i = 0; i < 6; i++) {
            Suite.is("app", i, tower.app(i % 4));
        }
        Suite.refuses(tower, "a seventh app", Suite.STATE, () -> tower.app(0));
        Suite.refuses(tower, "a seventh app of no show", Suite.INDEX, () -> tower.app(4));
    }

    private static void pollRefuses() {
        Taped tower = new Taped();
        Suite.refuses(tower, "poll(0) without an app", Suite.INDEX, () -> tower.poll(0));
        tower.app(1);
        for (int far : Suite.FAR_OUT) {
            Suite.refuses(tower, "poll(" + far + ")", Suite.INDEX, () -> tower.poll(far));
        }
        Suite.refuses(tower, "poll(1)", Suite.INDEX, () -> tower.poll(1));
        Suite.is("poll(0)", 0, tower.poll(0));
    }

    private static void told() {
        Taped tower = new Taped();
        Suite.refuses(tower, "told(0, -1) without an app", Suite.INDEX, () -> tower.told(0, -1));
        tower.app(0);
        for (int far : Suite.FAR_OUT) {
            Suite.refuses(tower, "told(" + far + ", 0)", Suite.INDEX, () -> tower.told(far, 0));
            if (far < 0) {
                Suite.refuses(tower, "told(0, " + far + ")", Suite.INDEX, () -> tower.told(0, far));
            } else {
                Suite.is("told(0, " + far + ")", -1, tower.told(0, far));
            }
        }
        Suite.refuses(tower, "told(1, 0)", Suite.INDEX, () -> tower.told(1, 0));
        item(tower, 0, 0);
        Suite.is("told ahead of the first poll", -1, tower.told(0, 0));
        tower.poll(0);
        Suite.is("told(0, 0)", 0, tower.told(0, 0));
        Suite.is("told(0, 1)", -1, tower.told(0, 1));
        tower.withdraw(0);
        Suite.is("told is as it was polled last", 0, tower.told(0, 0));
        tower.poll(0);
        Suite.is("told anew", 0, tower.told(0, 0));
        tower.poll(0);
        Suite.is("a poll that tells nothing", -1, tower.told(0, 0));
    }

    private static void firstPollTellsAll() {
        Taped tower = new Taped();
        item(tower, 0, 0);
        item(tower, 1, 0);
        item(tower, 0, 0);
        tower.app(0);
        tower.app(3);
        Suite.is("changes ahead of the app are told the first time", 2, tower.poll(0));
        Suite.is("told", " 0 2", Suite.told(tower, 0));
        Suite.is("a show without items", 0, tower.poll(1));
        Suite.is("none is told twice", 0, tower.poll(0));
    }

    private static void releasesComeByHourThenNumber() {
        Taped tower = new Taped();
        tower.app(0);
        item(tower, 0, 9);
        item(tower, 0, 4);
        item(tower, 0, 9);
        item(tower, 0, 4);
        item(tower, 0, 10);
        tower.pass(9);
        Suite.is("poll", 4, tower.poll(0));
        Suite.is("by the hour, then by the number", " 1 3 0 2", Suite.told(tower, 0));
        Suite.is("no release is told twice", 0, tower.poll(0));
        tower.pass(1);
        Suite.is("poll", 1, tower.poll(0));
        Suite.is("the last one", " 4", Suite.told(tower, 0));
    }

    private static void orderOfTheFirstChangeSince() {
        Taped tower = new Taped();
        tower.app(0);
        item(tower, 0, 0);
        item(tower, 0, 0);
        item(tower, 0, 0);
        Suite.is("poll", 3, tower.poll(0));
        tower.cut(2, 0);
        tower.cut(0, 1);
        tower.cut(2, 1);
        tower.withdraw(0);
        Suite.is("poll", 2, tower.poll(0));
        Suite.is("each once, by its first change since", " 2 0", Suite.told(tower, 0));
        tower.withdraw(1);
        tower.withdraw(2);
        Suite.is("poll", 2, tower.poll(0));
        Suite.is("changes of the poll ahead are over", " 1 2", Suite.told(tower, 0));
    }

    private static void eachChangeIsTold() {
        Taped tower = new Taped();
        tower.app(2);
        item(tower, 2, 0);
        Suite.is("released at once", 1, tower.poll(0));
        tower.cut(0, 0);
        Suite.is("cut", 1, tower.poll(0));
        tower.songOut(7);
        Suite.is("cut by a song", 1, tower.poll(0));
        tower.withdraw(0);
        Suite.is("withdrawn", 1, tower.poll(0));
        Suite.is("no more", 0, tower.poll(0));
        tower.music(6, 5);
        tower.item(2, 1);
        tower.pass(1);
        Suite.is("released as its hour comes", 1, tower.poll(0));
        tower.songOut(6);
        Suite.is("withdrawn by a song", 1, tower.poll(0));
        Suite.is("told", " 1", Suite.told(tower, 0));
        Suite.is("no more", 0, tower.poll(0));
    }

    private static void nothingOfOneThatIsNotReleased() {
        Taped tower = new Taped();
        tower.app(0);
        item(tower, 0, 5);
        item(tower, 0, 6);
        item(tower, 0, 5);
        tower.cut(1, 0);
        tower.songOut(7);
        tower.withdraw(2);
        tower.withdraw(1);
        tower.pass(4);
        Suite.is("poll ahead of the hour", 0, tower.poll(0));
        tower.pass(1);
        Suite.is("poll in the hour", 2, tower.poll(0));
        Suite.is("a withdrawn one is released too", " 0 2", Suite.told(tower, 0));
        tower.pass(1);
        Suite.is("poll in the next hour", 1, tower.poll(0));
        Suite.is("the last one", " 1", Suite.told(tower, 0));
    }

    private static void songsByNumbers() {
        Taped tower = new Taped();
        tower.app(1);
        item(tower, 1, 3);
        item(tower, 1, 0);
        item(tower, 0, 0);
        item(tower, 1, 0);
        item(tower, 1, 20);
        tower.pass(3);
        Suite.is("poll", 3, tower.poll(0));
        Suite.is("told", " 1 3 0", Suite.told(tower, 0));
        tower.cut(3, 0);
        tower.songOut(7);
        Suite.is("poll", 3, tower.poll(0));
        Suite.is("one was changed first, the others by their numbers", " 3 0 1", Suite.told(tower, 0));
        tower.songOut(8);
        Suite.is("a song that cuts nothing", 0, tower.poll(0));
    }

    private static void songOfAWithdrawnOne() {
        Taped tower = new Taped();
        tower.app(0);
        item(tower, 0, 0);
        tower.withdraw(0);
        Suite.is("poll", 1, tower.poll(0));
        Suite.is("songOut(7)", 1, tower.songOut(7));
        Suite.is("a song that cuts a part of a withdrawn one", 1, tower.poll(0));
    }

    private static void whatIsNoChange() {
        Taped tower = new Taped();
        tower.app(0);
        item(tower, 0, 0);
        tower.poll(0);
        tower.campaign(0, 0, 5, 0, 10, 99, 3);
        tower.ask(1, 0);
        tower.load(0, 0, 5);
        tower.bot(1, true);
        tower.tell(0, 1);
        tower.pass(20);
        tower.music(8, 3);
        tower.songOut(8);
        Suite.refuses(tower, "cut(0, 9)", Suite.INDEX, () -> tower.cut(0, 9));
        Suite.is("nothing else is a change", 0, tower.poll(0));
    }

    private static void appsPollForThemselves() {
        Taped tower = new Taped();
        tower.app(0);
        tower.app(0);
        item(tower, 0, 0);
        Suite.is("poll(0)", 1, tower.poll(0));
        item(tower, 0, 0);
        Suite.is("poll(0)", 1, tower.poll(0));
        Suite.is("poll(1)", 2, tower.poll(1));
        Suite.is("told of 0", " 1", Suite.told(tower, 0));
        Suite.is("told of 1", " 0 1", Suite.told(tower, 1));
        tower.withdraw(0);
        Suite.is("poll(1)", 1, tower.poll(1));
        Suite.is("poll(0)", 1, tower.poll(0));
    }

    /** An item of two talks, a music of song 7 and a slot of place 0. */
    private static void item(Taped tower, int show, int hour) {
        tower.talk(10);
        tower.talk(20);
        tower.music(7, 30);
        tower.slot(0);
        tower.item(show, hour);
    }
}
