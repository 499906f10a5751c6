/** The words of promises 10, 11 and 20, and of the terms of feeds. */
final class FeedEdges {
    private static final int APP = 10, POLL = 11, TOLD = 20;

    private FeedEdges() {
    }

    static void all() {
        app();
        poll();
        told();
        changes();
        whatIsNoChange();
        theRow();
        apps();
    }

    private static void app() {
        Sentences.hold(APP, "Adds an APP.", () -> {
            Taped tower = Towers.items(1);
            Suite.refuses(tower, "poll ahead of that", Suite.INDEX, () -> tower.poll(0));
            tower.app(0);
            Suite.is("poll behind that", 1, tower.poll(0));
        });
        Sentences.hold(APP, "Returns its number.", () -> {
            Taped tower = Towers.empty();
            for (int show = 0; show < 4; show++) {
                Towers.addTalks(tower, show, 0, 1);
            }
            for (int number = 0; number < 6; number++) {
                Suite.is("the number", number, tower.app((number + 2) % 4));
                tower.poll(number);
                Suite.is("it is told of its show", " " + (number + 2) % 4, Suite.told(tower, number));
            }
        });
        Sentences.hold(APP, "Throws `IndexOutOfBoundsException` if there is no such show", () ->
            Edges.range("show", Towers::empty, 0, 3, Suite.INDEX, (tower, show) -> tower.app(show)));
        Sentences.hold(APP, "Throws `IllegalStateException` if there are 6", () -> {
            Taped tower = Towers.empty();
            for (int i = 0; i < 4; i++) {
                tower.app(0);
            }
            Suite.is("there are 4", 4, tower.app(3));
            Suite.is("there are 5", 5, tower.app(0));
            Edges.refuses("there are 6", () -> tower, Suite.STATE, (on, show) -> on.app(show), 0, 1, 2, 3);
        });
    }

    private static void poll() {
        Sentences.hold(POLL, "Polls.", () -> {
            Taped tower = Towers.items(1);
            tower.app(0);
            Suite.is("ahead of that", "", Suite.told(tower, 0));
            tower.poll(0);
            Suite.is("behind that", " 0", Suite.told(tower, 0));
        });
        Sentences.hold(POLL, "Returns how many ITEMS it is told.", () -> {
            for (int items : new int[] {0, 1, 2, 23, 24}) {
                Taped tower = Towers.items(items);
                tower.app(0);
                Suite.is("of " + items, items, tower.poll(0));
                Suite.is("none is left", 0, tower.poll(0));
                Suite.is("all have a change of a song", items, tower.songOut(1));
                Suite.is("of " + items + " anew", items, tower.poll(0));
            }
        });
        Sentences.hold(POLL, "Throws `IndexOutOfBoundsException` if there is no such APP", () -> {
            Edges.range("app", () -> apps(2), 0, 1, Suite.INDEX, (tower, app) -> tower.poll(app));
            Edges.range("app", () -> apps(6), 0, 5, Suite.INDEX, (tower, app) -> tower.poll(app));
            Edges.refuses("app", Towers::empty, Suite.INDEX, (tower, app) -> tower.poll(app), -1, 0, 1);
        });
    }

    private static Taped apps(int many) {
        Taped tower = Towers.items(2);
        for (int i = 0; i < many; i++) {
            tower.app(i % 2);
        }
        return tower;
    }

    private static void told() {
        Sentences.hold(TOLD, "Returns an ITEM that an APP was told as it polled last.", () -> {
            Taped tower = Towers.items(3);
            tower.app(0);
            tower.poll(0);
            tower.withdraw(2);
            tower.cut(1, 0);
            Suite.is("changes since are not told yet", " 0 1 2 -1", Edges.each((on, at) -> on.told(0, at), tower, 0, 3));
            tower.poll(0);
            Suite.is("polled last", " 2 1 -1 -1", Edges.each((on, at) -> on.told(0, at), tower, 0, 3));
            tower.poll(0);
            Suite.is("polled last, without a change", " -1 -1 -1 -1", Edges.each((on, at) -> on.told(0, at), tower, 0, 3));
        });
        Sentences.hold(TOLD, "- `at`: from 0, in the order told", () -> {
            Taped tower = new Taped();
            tower.app(0);
            for (int i = 0; i < 24; i++) {
                Towers.addTalks(tower, 0, 24 - i, 1);
            }
            tower.pass(24);
            Suite.is("all are told", 24, tower.poll(0));
            for (int at = 0; at < 24; at++) {
                Suite.is("at " + at, 23 - at, tower.told(0, at));
            }
        });
        Sentences.hold(TOLD, "Returns the ITEM; NONE if it was told less", () -> {
            Taped tower = Towers.items(24);
            tower.app(0);
            tower.poll(0);
            Suite.is("the last two, and those behind them", " 22 23 -1 -1", Edges.each((on, at) -> on.told(0, at), tower, 22, 25));
            for (int at : new int[] {32, 64, 256, 65536, 1 << 30, Integer.MAX_VALUE - 1, Integer.MAX_VALUE}) {
                Suite.is("at " + at, FeedTower.NONE, tower.told(0, at));
            }
            tower.withdraw(7);
            tower.poll(0);
            Suite.is("one, and none behind it", " 7 -1 -1", Edges.each((on, at) -> on.told(0, at), tower, 0, 2));
        });
        Sentences.hold(TOLD, ", or did not poll.", () -> {
            Taped tower = apps(2);
            Suite.is("neither did", " -1 -1", Edges.each((on, app) -> on.told(app, 0), tower, 0, 1));
            tower.poll(1);
            Suite.is("the other one did, and was told none", " -1 -1", Edges.each((on, app) -> on.told(app, 0), tower, 0, 1));
            tower.poll(0);
            Suite.is("both did", " 0 -1", Edges.each((on, app) -> on.told(app, 0), tower, 0, 1));
        });
        Sentences.hold(TOLD, "Throws `IndexOutOfBoundsException` if there is no such APP", () -> {
            Edges.range("app", () -> apps(2), 0, 1, Suite.INDEX, (tower, app) -> tower.told(app, 0));
            Edges.range("app", () -> apps(6), 0, 5, Suite.INDEX, (tower, app) -> tower.told(app, 9));
            Edges.refuses("app", Towers::empty, Suite.INDEX, (tower, app) -> tower.told(app, 0), -1, 0, 1);
        });
        Sentences.hold(TOLD, ", or at is below 0", () -> {
            Edges.range("at", () -> apps(1), 0, Integer.MAX_VALUE, Suite.INDEX, (tower, at) -> tower.told(0, at));
            Taped tower = apps(1);
            tower.poll(0);
            Edges.range("at, as it polled", tower::fork, 0, Integer.MAX_VALUE, Suite.INDEX, (on, at) -> on.told(0, at));
        });
    }

    private static void changes() {
        Sentences.hold(Sentences.TERMS, "A CHANGE of an ITEM is: that it is RELEASED", () -> {
            Taped tower = polled(3);
            tower.pass(2);
            Suite.is("one hour ahead", 0, tower.poll(0));
            tower.pass(1);
            Suite.is("in its hour", 1, tower.poll(0));
            tower.pass(1);
            Suite.is("one hour behind", 0, tower.poll(0));
            Towers.addTalks(tower, 0, 4, 1);
            Suite.is("at once", 1, tower.poll(0));
            Towers.addTalks(tower, 0, 1000, 1);
            Towers.addTalks(tower, 0, 9999, 1);
            tower.pass(999);
            Suite.is("as its hour is passed over", 1, tower.poll(0));
            Towers.passTo(tower, 9998);
            Suite.is("ahead of the last hour", 0, tower.poll(0));
            tower.pass(1);
            Suite.is("in the last hour", " 3", tower.poll(0) == 1 ? Suite.told(tower, 0) : "");
        });
        Sentences.hold(Sentences.TERMS, "; and, of one that is RELEASED, that a PART of it is CUT by cut()", () -> {
            Taped tower = polled(0);
            for (int part = 0; part < 3; part++) {
                tower.cut(0, part);
                Suite.is("part " + part, 1, tower.poll(0));
                Suite.is("no more of it", 0, tower.poll(0));
            }
        });
        Sentences.hold(Sentences.TERMS, ", that one or more are by a song that goes out, which is one CHANGE", () -> {
            Taped tower = polled(0);
            tower.songOut(9);
            Suite.is("none is", 0, tower.poll(0));
            tower.songOut(7);
            Suite.is("one is", 1, tower.poll(0));
            tower.songOut(8);
            Suite.is("two are", 1, tower.poll(0));
            Suite.is("no more of it", 0, tower.poll(0));
            tower.withdraw(0);
            tower.poll(0);
            Taped withdrawn = Towers.items(1);
            withdrawn.withdraw(0);
            withdrawn.app(0);
            withdrawn.poll(0);
            withdrawn.songOut(1);
            Suite.is("also of a withdrawn one", 1, withdrawn.poll(0));
        });
        Sentences.hold(Sentences.TERMS, ", also if it is WITHDRAWN by that,", () -> {
            Taped tower = new Taped();
            tower.app(0);
            tower.music(1, 5);
            tower.item(0, 0);
            tower.music(2, 5);
            tower.item(0, 0);
            tower.poll(0);
            tower.songOut(2);
            Suite.is("the second one", " 1", tower.poll(0) == 1 ? Suite.told(tower, 0) : "");
            tower.songOut(1);
            Suite.is("the first one", " 0", tower.poll(0) == 1 ? Suite.told(tower, 0) : "");
            Suite.is("no more of them", 0, tower.poll(0));
        });
        Sentences.hold(Sentences.TERMS, "and that it is WITHDRAWN by withdraw()", () -> {
            Taped tower = polled(0);
            tower.withdraw(0);
            Suite.is("it is told", 1, tower.poll(0));
            Suite.is("no more of it", 0, tower.poll(0));
        });
    }

    /** A tower with an app of show 0 that has polled, and an item of this hour: three talks, songs 7, 8 and 8, a slot. */
    private static Taped polled(int hour) {
        Taped tower = new Taped();
        tower.app(0);
        for (int i = 0; i < 3; i++) {
            tower.talk(10);
        }
        tower.music(7, 10);
        tower.music(8, 10);
        tower.music(8, 10);
        tower.slot(0);
        tower.item(0, hour);
        tower.poll(0);
        return tower;
    }

    private static void whatIsNoChange() {
        Sentences.hold(Sentences.TERMS, "; nothing else is,", () -> {
            Taped tower = polled(0);
            tower.campaign(0, 0, 5, 0, 1, 9, 3);
            Suite.is("an ad in its slot", 0, tower.ask(1, 0) + tower.poll(0));
            tower.load(0, 0, 65);
            tower.bot(1, true);
            tower.tell(0, 1);
            tower.app(0);
            tower.poll(1);
            Suite.is("loads, bots, what is told, another app", 0, tower.poll(0));
            tower.music(3, 5);
            tower.songOut(3);
            tower.songOut(4);
            Suite.is("songs that cut nothing", 0, tower.poll(0));
            Suite.refuses(tower, "cut(0, 7)", Suite.INDEX, () -> tower.cut(0, 7));
            Suite.is("refused calls", 0, tower.poll(0));
            Towers.passTo(tower, 9999);
            Suite.is("hours that pass", 0, tower.poll(0));
        });
        Sentences.hold(Sentences.TERMS, "and nothing of one that is not RELEASED.", () -> {
            Taped tower = polled(5);
            tower.pass(4);
            tower.cut(0, 0);
            Suite.is("cut one hour ahead", 0, tower.poll(0));
            tower.songOut(8);
            Suite.is("a song one hour ahead", 0, tower.poll(0));
            tower.withdraw(0);
            Suite.is("withdrawn one hour ahead", 0, tower.poll(0));
            tower.songOut(7);
            Suite.is("a song, as it is withdrawn", 0, tower.poll(0));
            tower.pass(1);
            Suite.is("it is released", 1, tower.poll(0));
            Taped cut = polled(5);
            cut.pass(5);
            cut.poll(0);
            cut.cut(0, 0);
            Suite.is("cut in its hour", 1, cut.poll(0));
        });
    }

    private static void theRow() {
        Sentences.hold(Sentences.TERMS, "CHANGES stand in a row, as they come", () -> {
            Taped tower = Towers.items(4);
            tower.app(0);
            tower.poll(0);
            tower.withdraw(3);
            tower.cut(0, 0);
            tower.withdraw(2);
            Towers.addTalks(tower, 0, 0, 1);
            tower.withdraw(1);
            tower.poll(0);
            Suite.is("as they came", " 3 0 2 4 1", Suite.told(tower, 0));
            Taped hours = new Taped();
            hours.app(0);
            for (int hour : new int[] {9, 8, 7, 1}) {
                Towers.addTalks(hours, 0, hour, 1);
            }
            hours.pass(9);
            Towers.addTalks(hours, 0, 9, 1);
            hours.poll(0);
            Suite.is("an earlier hour comes first, also if all pass at once", " 3 2 1 0 4", Suite.told(hours, 0));
        });
        Sentences.hold(Sentences.TERMS, ": of several ITEMS that are RELEASED in an hour,", () -> {
            Taped tower = new Taped();
            tower.app(0);
            tower.app(1);
            for (int hour : new int[] {6, 5, 6, 5, 6, 7}) {
                Towers.addTalks(tower, 0, hour, 1);
                Towers.addTalks(tower, 1, hour, 1);
            }
            tower.pass(6);
            Suite.is("how many", 10, tower.poll(0) + tower.poll(1));
            Suite.is("by their numbers", " 2 6 0 4 8", Suite.told(tower, 0));
            Suite.is("by their numbers", " 3 7 1 5 9", Suite.told(tower, 1));
        });
        Sentences.hold(Sentences.TERMS, "or changed by a song, by their numbers.", () -> {
            Taped tower = Towers.empty();
            tower.app(0);
            for (int hour : new int[] {3, 2, 1, 4, 0}) {
                tower.talk(1);
                tower.music(1, 1);
                tower.item(0, hour);
            }
            tower.pass(3);
            tower.poll(0);
            Suite.is("as they were released", " 4 2 1 0", Suite.told(tower, 0));
            tower.songOut(1);
            tower.poll(0);
            Suite.is("by their numbers, those that are released", " 0 1 2 4", Suite.told(tower, 0));
            tower.withdraw(2);
            tower.withdraw(1);
            tower.poll(0);
            Suite.is("as they came", " 2 1", Suite.told(tower, 0));
        });
    }

    private static void apps() {
        Sentences.hold(Sentences.TERMS, "; what was heard is not told anew.", () -> {
            Taped tower = Towers.items(3);
            tower.app(0);
            Suite.is("the first time", 3, tower.poll(0));
            Suite.is("the second time", 0, tower.poll(0));
            tower.cut(1, 0);
            tower.poll(0);
            Suite.is("the changed one alone", " 1", Suite.told(tower, 0));
        });
        Sentences.hold(Sentences.TERMS, "An APP is of a show; APPS are numbered from 0, at most 6.", () -> {
            Taped tower = Towers.empty();
            for (int i = 0; i < 6; i++) {
                Suite.is("the number", i, tower.app(i % 4));
                Towers.addTalks(tower, i % 4, 0, 1);
            }
            Suite.refuses(tower, "a seventh", Suite.STATE, () -> tower.app(0));
            Suite.is("of their shows", " 2 2 1 1 2 2", Edges.each((on, app) -> on.poll(app), tower, 0, 5));
            Suite.is("of show 0", " 0 4", Suite.told(tower, 4));
            Suite.is("of show 3", " 3", Suite.told(tower, 3));
        });
        Sentences.hold(Sentences.TERMS, "To poll tells the ITEMS of its show that have CHANGES since it polled last,", () -> {
            Taped tower = Towers.empty();
            tower.app(2);
            for (int show = 0; show < 4; show++) {
                Towers.addTalks(tower, show, 0, 1, 2);
                Towers.addTalks(tower, show, 0, 1, 2);
            }
            tower.poll(0);
            Suite.is("of its show", " 4 5", Suite.told(tower, 0));
            tower.cut(3, 0);
            tower.cut(6, 0);
            Suite.is("changes of the shows beside it", 0, tower.poll(0));
            tower.cut(5, 0);
            Suite.is("one of its show", 1, tower.poll(0));
            Suite.is("which", " 5", Suite.told(tower, 0));
        });
        Sentences.hold(Sentences.TERMS, "or, the first time, ever", () -> {
            Taped tower = Towers.items(1);
            tower.cut(0, 0);
            Towers.passTo(tower, 9999);
            tower.app(0);
            tower.app(0);
            Suite.is("changes ahead of the app", 1, tower.poll(1));
            Towers.addTalks(tower, 0, 9999, 1);
            Suite.is("the first time of the other one", 2, tower.poll(0));
            Suite.is("the second time of the first one", 1, tower.poll(1));
        });
        Sentences.hold(Sentences.TERMS, ": each once, in the order of their first CHANGES since.", () -> {
            Taped tower = Towers.items(3);
            tower.app(0);
            tower.app(0);
            tower.poll(0);
            tower.cut(2, 0);
            tower.cut(1, 0);
            tower.withdraw(2);
            tower.songOut(1);
            tower.withdraw(0);
            Suite.is("each once", 3, tower.poll(0));
            Suite.is("by the first since", " 2 1 0", Suite.told(tower, 0));
            Suite.is("each once", 3, tower.poll(1));
            Suite.is("by the first ever", " 0 1 2", Suite.told(tower, 1));
        });
    }
}
