/** The words of promises 14 to 16, 22 and 24 to 27, and of the terms of loading, counts, going on and corrections. */
final class DownloadEdges {
    private static final int LOAD = 14, BOT = 15, TELL = 16, OF_DOWNLOAD = 22, LOADED_ANEW = 24, COUNTS = 25, COUNT = 26, IS_OWED = 27;

    private DownloadEdges() {
    }

    static void all() {
        load();
        bot();
        tell();
        ofDownload();
        loadedAnew();
        counts();
        count();
        isOwed();
        loadingTerms();
        countingTerms();
        heardTerms();
        goingOnTerms();
        correctionTerms();
    }

    /** A tower with one item of talks, and downloads of it by these listeners. */
    private static Taped asked(int[] seconds, int... listeners) {
        Taped tower = Towers.talks(seconds);
        for (int listener : listeners) {
            tower.ask(listener, 0);
        }
        return tower;
    }

    private static Taped asked(int seconds) {
        return asked(new int[] {seconds}, 0);
    }

    private static Taped sixty() {
        Taped tower = Towers.items(1);
        for (int i = 0; i < 60; i++) {
            tower.ask(i % 10, 0);
        }
        return tower;
    }

    private static void load() {
        Sentences.hold(LOAD, "Loads a range of a DOWNLOAD.", () -> {
            Taped tower = asked(new int[] {10}, 0, 0);
            tower.load(1, 3, 5);
            Suite.is("of that one", " 0 2", Edges.each((on, download) -> on.ofDownload(download, 4), tower, 0, 1));
        });
        Sentences.hold(LOAD, "- `from`: 0 to less than to", () -> {
            Edges.range("from, to 10", () -> asked(10), 0, 9, Suite.ARGUMENT, (tower, from) -> tower.load(0, from, 10));
            Edges.range("from, to 5", () -> asked(10), 0, 4, Suite.ARGUMENT, (tower, from) -> tower.load(0, from, 5));
            Edges.range("from, to 1", () -> asked(10), 0, 0, Suite.ARGUMENT, (tower, from) -> tower.load(0, from, 1));
            Edges.refuses("from, to 0", () -> asked(10), Suite.ARGUMENT, (tower, from) -> tower.load(0, from, 0), -2, -1, 0, 1);
        });
        Sentences.hold(LOAD, "- `to`: at most how many seconds it has", () -> {
            Edges.range("to, of 1", () -> asked(1), 1, 1, Suite.ARGUMENT, (tower, to) -> tower.load(0, 0, to));
            Edges.range("to, of 10", () -> asked(10), 1, 10, Suite.ARGUMENT, (tower, to) -> tower.load(0, 0, to));
            Edges.range("to, from 9", () -> asked(10), 10, 10, Suite.ARGUMENT, (tower, to) -> tower.load(0, 9, to));
            Taped none = Towers.slots(0);
            none.ask(0, 0);
            Edges.refuses("to, of no seconds", () -> none, Suite.ARGUMENT, (tower, to) -> tower.load(0, 0, to), -1, 0, 1);
            Taped most = asked(new int[] {999, 999, 999, 999, 999, 999, 999, 999, 999, 999}, 0);
            Edges.range("to, of the most", most::fork, 1, 9990, Suite.ARGUMENT, (tower, to) -> tower.load(0, 0, to));
        });
        Sentences.hold(LOAD, "Returns how many of its seconds are LOADED then.", DownloadEdges::howManyAreLoaded);
        Sentences.hold(LOAD, "Throws `IndexOutOfBoundsException` if there is no such DOWNLOAD", () -> {
            Edges.range("download", () -> asked(new int[] {10}, 0, 1), 0, 1, Suite.INDEX, (tower, download) -> tower.load(download, 0, 1));
            Edges.range("download", DownloadEdges::sixty, 0, 59, Suite.INDEX, (tower, download) -> tower.load(download, 0, 1));
            Edges.refuses("download", () -> Towers.items(1), Suite.INDEX, (tower, download) -> tower.load(download, 0, 1), -1, 0, 1);
        });
        Sentences.hold(LOAD, "Throws `IllegalArgumentException` if from or to is out of range", () -> {
            Taped tower = asked(10);
            int[][] ranges = {{-1, 1}, {0, 0}, {0, 11}, {9, 9}, {10, 10}, {10, 11}, {6, 5}, {-1, 10}, {-1, 11}, {0, -1}, {-2, -1},
                {Integer.MIN_VALUE, Integer.MAX_VALUE}, {Integer.MAX_VALUE, Integer.MIN_VALUE}, {0, Integer.MIN_VALUE},
                {Integer.MIN_VALUE, 1}};
            for (int[] range : ranges) {
                Suite.refuses(tower, "from " + range[0] + " to " + range[1], Suite.ARGUMENT, () -> tower.load(0, range[0], range[1]));
            }
            Suite.is("neither is", 10, tower.load(0, 0, 10));
        });
        Sentences.hold(LOAD, "Throws `IllegalStateException` if there were 200 ranges, of all DOWNLOADS", () -> {
            Taped tower = asked(new int[] {300}, 0, 1, 2);
            for (int i = 0; i < 198; i++) {
                tower.load(i % 2, i, i + 1);
            }
            Suite.is("there were 198", 1, tower.load(2, 0, 1));
            Suite.is("there were 199; one that loads nothing new is one, too", 1, tower.load(2, 0, 1));
            Edges.refuses("there were 200", () -> tower, Suite.STATE, (on, download) -> on.load(download, 0, 1), 0, 1, 2);
            Suite.is("they are loaded", " 99 99 1", Edges.each((on, download) -> on.loadedAnew(download), tower, 0, 2));
        });
    }

    private static void howManyAreLoaded() {
        Taped tower = asked(100);
        int[][] loads = {{50, 60, 10}, {49, 50, 11}, {60, 61, 12}, {49, 61, 12}, {55, 56, 12}, {48, 62, 14}, {47, 48, 15},
            {63, 64, 16}, {61, 63, 17}, {0, 1, 18}, {99, 100, 19}, {1, 46, 64}, {40, 48, 65}, {90, 100, 74}, {0, 100, 100}, {0, 100, 100}};
        for (int[] row : loads) {
            Suite.is("from " + row[0] + " to " + row[1], row[2], tower.load(0, row[0], row[1]));
            Suite.is("it is told of", row[2], tower.ofDownload(0, 4));
        }
        Suite.is("one second of one", 1, asked(1).load(0, 0, 1));
        Suite.is("the most", 9990, asked(new int[] {999, 999, 999, 999, 999, 999, 999, 999, 999, 999}, 0).load(0, 0, 9990));
    }

    private static void bot() {
        Sentences.hold(BOT, "Tells whether a listener is a bot.", () -> {
            Taped tower = asked(new int[] {1}, 0, 9);
            tower.load(0, 0, 1);
            tower.load(1, 0, 1);
            Suite.is("neither is", 2, tower.count(0, FeedTower.STRICT));
            tower.bot(9, true);
            Suite.is("the last one is", 1, tower.count(0, FeedTower.STRICT));
            tower.bot(0, true);
            Suite.is("both are", 0, tower.count(0, FeedTower.STRICT));
            tower.bot(9, false);
            Suite.is("the first one is", 1, tower.count(0, FeedTower.STRICT));
        });
        Sentences.hold(BOT, "Returns whether it was told that they are.", () -> {
            Taped tower = new Taped();
            for (int listener = 0; listener < 10; listener++) {
                Suite.is("of a new one", false, tower.bot(listener, true));
            }
            for (int listener = 0; listener < 10; listener++) {
                Suite.is("of one that is", true, tower.bot(listener, true));
                Suite.is("of one that is till then", true, tower.bot(listener, false));
                Suite.is("of one that was", false, tower.bot(listener, false));
                Suite.is("of one that is anew", false, tower.bot(listener, true));
            }
        });
        Sentences.hold(BOT, "Throws `IndexOutOfBoundsException` if there is no such listener", () -> {
            Edges.range("bot", Towers::empty, 0, 9, Suite.INDEX, (tower, listener) -> tower.bot(listener, true) ? 1 : 0);
            Edges.range("no bot", Towers::full, 0, 9, Suite.INDEX, (tower, listener) -> tower.bot(listener, false) ? 1 : 0);
        });
    }

    private static int tell(Taped tower, int item, int listener) {
        return tower.tell(item, listener) ? 1 : 0;
    }

    private static int isOwed(Taped tower, int item, int listener) {
        return tower.isOwed(item, listener) ? 1 : 0;
    }

    private static void tell() {
        Sentences.hold(TELL, "Tells a listener what was CUT of an ITEM.", () -> {
            Taped tower = asked(new int[] {5, 5}, 0, 9);
            tower.load(0, 0, 1);
            tower.load(1, 0, 1);
            tower.cut(0, 0);
            tower.tell(0, 9);
            Suite.is("that listener", " 1 0", isOwedOf(tower, 0) + isOwedOf(tower, 9));
            tower.tell(0, 0);
            Suite.is("both", " 0 0", isOwedOf(tower, 0) + isOwedOf(tower, 9));
        });
        Sentences.hold(TELL, "Returns whether they were OWED that.", () -> {
            Taped tower = asked(new int[] {5, 5, 5}, 3, 4);
            tower.load(0, 4, 6);
            Suite.is("nothing is cut", " 0 0", Edges.each((on, listener) -> tell(on, 0, listener), tower, 3, 4));
            tower.cut(0, 0);
            Suite.is("a part of which one second is loaded", " 1 0", Edges.each((on, listener) -> tell(on, 0, listener), tower, 3, 4));
            Suite.is("told anew", " 0 0", Edges.each((on, listener) -> tell(on, 0, listener), tower, 3, 4));
            tower.cut(0, 1);
            Suite.is("another part", " 1 0", Edges.each((on, listener) -> tell(on, 0, listener), tower, 3, 4));
        });
        Sentences.hold(TELL, "Throws `IndexOutOfBoundsException` if there is no such ITEM", () -> {
            Edges.range("item", () -> Towers.items(2), 0, 1, Suite.INDEX, (tower, item) -> tell(tower, item, 0));
            Edges.range("item", () -> Towers.items(24), 0, 23, Suite.INDEX, (tower, item) -> tell(tower, item, 9));
            Edges.refuses("item", Towers::empty, Suite.INDEX, (tower, item) -> tell(tower, item, 0), -1, 0, 1);
        });
        Sentences.hold(TELL, " or listener", () ->
            Edges.range("listener", Towers::full, 0, 9, Suite.INDEX, (tower, listener) -> tell(tower, 0, listener)));
    }

    private static String isOwedOf(Taped tower, int listener) {
        return " " + isOwed(tower, 0, listener);
    }

    private static void ofDownload() {
        Sentences.hold(OF_DOWNLOAD, "Tells of a DOWNLOAD: 0 its listener, 1 its ITEM, 2 the hour", () -> {
            Taped tower = Towers.items(24);
            tower.ask(0, 23);
            tower.pass(1);
            tower.ask(9, 0);
            Towers.passTo(tower, 9999);
            tower.ask(4, 7);
            Suite.is("the first", " 0 23 0", Edges.each((on, what) -> on.ofDownload(0, what), tower, 0, 2));
            Suite.is("the second", " 9 0 1", Edges.each((on, what) -> on.ofDownload(1, what), tower, 0, 2));
            Suite.is("the third", " 4 7 9999", Edges.each((on, what) -> on.ofDownload(2, what), tower, 0, 2));
        });
        Sentences.hold(OF_DOWNLOAD, ", 3 how many seconds it has, 4 how many are LOADED, 5 how many PARTS, SLOTS with them", () -> {
            Taped tower = new Taped();
            tower.slot(0);
            tower.talk(1);
            tower.slot(1);
            tower.item(0, 0);
            tower.ask(0, 0);
            tower.campaign(1, 0, 60, 0, 1, 9, 1);
            tower.ask(0, 0);
            tower.cut(0, 1);
            tower.ask(0, 0);
            tower.load(1, 0, 60);
            Suite.is("without an ad", " 1 0 3", Edges.each((on, what) -> on.ofDownload(0, what), tower, 3, 5));
            Suite.is("with an ad", " 61 60 3", Edges.each((on, what) -> on.ofDownload(1, what), tower, 3, 5));
            Suite.is("slots alone", " 0 0 2", Edges.each((on, what) -> on.ofDownload(2, what), tower, 3, 5));
            Suite.is("one more is loaded", 61, tower.load(1, 60, 61));
            Suite.is("of all", " 61 61 3", Edges.each((on, what) -> on.ofDownload(1, what), tower, 3, 5));
        });
        Sentences.hold(OF_DOWNLOAD, ", 6 at which second its listener goes on in it.", () -> {
            Taped tower = asked(new int[] {10, 10}, 1, 2, 1);
            Suite.is("none is loaded", " 0 0 0", Edges.each((on, download) -> on.ofDownload(download, 6), tower, 0, 2));
            tower.load(2, 0, 1);
            Suite.is("the first", " 1 0 1", Edges.each((on, download) -> on.ofDownload(download, 6), tower, 0, 2));
            tower.load(0, 19, 20);
            Suite.is("the last", " 20 0 20", Edges.each((on, download) -> on.ofDownload(download, 6), tower, 0, 2));
        });
        Sentences.hold(OF_DOWNLOAD, "- `what`: 0 to 6", () ->
            Edges.answers("what", Towers::full, (tower, what) -> tower.ofDownload(0, what), 0, 1, 2, 3, 4, 5, 6));
        Sentences.hold(OF_DOWNLOAD, "Throws `IndexOutOfBoundsException` if there is no such DOWNLOAD", () ->
            noSuchDownload((tower, download) -> tower.ofDownload(download, 0)));
        Sentences.hold(OF_DOWNLOAD, "Throws `IllegalArgumentException` if what is out of range", () ->
            Edges.range("what", Towers::full, 0, 6, Suite.ARGUMENT, (tower, what) -> tower.ofDownload(0, what)));
    }

    private static void noSuchDownload(Edges.Call call) {
        Edges.range("download", () -> asked(new int[] {10}, 0, 1), 0, 1, Suite.INDEX, call);
        Edges.range("download", DownloadEdges::sixty, 0, 59, Suite.INDEX, call);
        Edges.refuses("download", () -> Towers.items(1), Suite.INDEX, call, -1, 0, 1);
    }

    private static void loadedAnew() {
        Sentences.hold(LOADED_ANEW, "Returns how many seconds of a DOWNLOAD are LOADED,"
                + " found second by second from all its ranges.", () -> {
            Taped tower = asked(new int[] {40}, 0, 0);
            Suite.is("no range", 0, tower.loadedAnew(0));
            boolean[] loaded = new boolean[40];
            int[][] ranges = {{39, 40}, {0, 1}, {10, 20}, {20, 21}, {9, 10}, {12, 18}, {30, 35}, {32, 37}, {21, 22}, {5, 25}, {1, 39}};
            for (int[] range : ranges) {
                int all = 0;
                for (int second = 0; second < 40; second++) {
                    loaded[second] |= range[0] <= second && second < range[1];
                    all += loaded[second] ? 1 : 0;
                }
                tower.load(0, range[0], range[1]);
                Suite.is("with the range from " + range[0] + " to " + range[1], all, tower.loadedAnew(0));
            }
            Suite.is("of another one", 0, tower.loadedAnew(1));
            Taped none = Towers.slots(0);
            none.ask(0, 0);
            Suite.is("of no seconds", 0, none.loadedAnew(0));
        });
        Sentences.hold(LOADED_ANEW, "Throws `IndexOutOfBoundsException` if there is no such DOWNLOAD", () ->
            noSuchDownload((tower, download) -> tower.loadedAnew(download)));
    }

    private static int counts(Taped tower, int download, int rule) {
        return tower.counts(download, rule) ? 1 : 0;
    }

    private static void counts() {
        Sentences.hold(COUNTS, "Tells whether a DOWNLOAD counts.", () -> {
            Taped tower = asked(new int[] {100}, 0, 1, 2);
            tower.load(1, 0, 59);
            tower.load(2, 0, 60);
            Suite.is("by LOOSE", " 0 1 1", Edges.each((on, download) -> counts(on, download, FeedTower.LOOSE), tower, 0, 2));
            Suite.is("by STRICT", " 0 0 1", Edges.each((on, download) -> counts(on, download, FeedTower.STRICT), tower, 0, 2));
        });
        Sentences.hold(COUNTS, "- `rule`: LOOSE or STRICT", () ->
            Edges.answers("rule", Towers::full, (tower, rule) -> counts(tower, 0, rule), FeedTower.LOOSE, FeedTower.STRICT));
        Sentences.hold(COUNTS, "Throws `IndexOutOfBoundsException` if there is no such DOWNLOAD", () -> {
            noSuchDownload((tower, download) -> counts(tower, download, FeedTower.LOOSE));
            noSuchDownload((tower, download) -> counts(tower, download, FeedTower.STRICT));
        });
        Sentences.hold(COUNTS, "Throws `IllegalArgumentException` if rule is out of range", () ->
            Edges.range("rule", Towers::full, 0, 1, Suite.ARGUMENT, (tower, rule) -> counts(tower, 0, rule)));
    }

    private static void count() {
        Sentences.hold(COUNT, "Returns how many DOWNLOADS of an ITEM count.", () -> {
            Taped tower = Towers.items(2);
            Suite.is("there are none", " 0 0", Edges.each((on, rule) -> on.count(0, rule), tower, 0, 1));
            for (int i = 0; i < 60; i++) {
                tower.ask(i % 10, 0);
            }
            Suite.is("none is loaded", " 0 0", Edges.each((on, rule) -> on.count(0, rule), tower, 0, 1));
            tower.load(0, 0, 5);
            Suite.is("one is", " 1 1", Edges.each((on, rule) -> on.count(0, rule), tower, 0, 1));
            for (int i = 1; i < 60; i++) {
                tower.load(i, 0, 5);
            }
            Suite.is("all are", " 60 10", Edges.each((on, rule) -> on.count(0, rule), tower, 0, 1));
            tower.withdraw(0);
            Suite.is("also as it is withdrawn", " 60 10", Edges.each((on, rule) -> on.count(0, rule), tower, 0, 1));
            Suite.is("of another one", " 0 0", Edges.each((on, rule) -> on.count(1, rule), tower, 0, 1));
        });
        Sentences.hold(COUNT, "- `rule`: LOOSE or STRICT", () ->
            Edges.answers("rule", Towers::full, (tower, rule) -> tower.count(0, rule), FeedTower.LOOSE, FeedTower.STRICT));
        Sentences.hold(COUNT, "Throws `IndexOutOfBoundsException` if there is no such ITEM", () -> {
            Edges.range("item", () -> Towers.items(2), 0, 1, Suite.INDEX, (tower, item) -> tower.count(item, 0));
            Edges.range("item", () -> Towers.items(24), 0, 23, Suite.INDEX, (tower, item) -> tower.count(item, 1));
            Edges.refuses("item", Towers::empty, Suite.INDEX, (tower, item) -> tower.count(item, 0), -1, 0, 1);
        });
        Sentences.hold(COUNT, "Throws `IllegalArgumentException` if rule is out of range", () ->
            Edges.range("rule", Towers::full, 0, 1, Suite.ARGUMENT, (tower, rule) -> tower.count(1, rule)));
    }

    private static void isOwed() {
        Sentences.hold(IS_OWED, "Tells whether a listener is OWED a correction of an ITEM.", () -> {
            Taped tower = asked(new int[] {5, 5}, 0, 9);
            Towers.addTalks(tower, 0, 0, 5, 5);
            tower.cut(0, 0);
            tower.cut(1, 0);
            tower.load(1, 4, 5);
            Suite.is("of the item", " 0 0 0 0 0 0 0 0 0 1", Edges.each((on, listener) -> isOwed(on, 0, listener), tower, 0, 9));
            Suite.is("of another one", " 0 0 0 0 0 0 0 0 0 0", Edges.each((on, listener) -> isOwed(on, 1, listener), tower, 0, 9));
        });
        Sentences.hold(IS_OWED, "Throws `IndexOutOfBoundsException` if there is no such ITEM", () -> {
            Edges.range("item", () -> Towers.items(2), 0, 1, Suite.INDEX, (tower, item) -> isOwed(tower, item, 0));
            Edges.range("item", () -> Towers.items(24), 0, 23, Suite.INDEX, (tower, item) -> isOwed(tower, item, 9));
            Edges.refuses("item", Towers::empty, Suite.INDEX, (tower, item) -> isOwed(tower, item, 0), -1, 0, 1);
        });
        Sentences.hold(IS_OWED, " or listener", () ->
            Edges.range("listener", Towers::full, 0, 9, Suite.INDEX, (tower, listener) -> isOwed(tower, 0, listener)));
    }

    private static void loadingTerms() {
        int terms = Sentences.TERMS;
        Sentences.hold(terms, "Seconds of a DOWNLOAD are LOADED by ranges, from one to ahead of another one,", () -> {
            Taped tower = asked(new int[] {10, 1, 1, 10}, 0);
            tower.load(0, 10, 11);
            tower.cut(0, 0);
            Suite.is("not the one ahead of it", false, tower.isOwed(0, 0));
            tower.cut(0, 2);
            Suite.is("not the one behind it", false, tower.isOwed(0, 0));
            tower.cut(0, 1);
            Suite.is("that one", true, tower.isOwed(0, 0));
            Suite.is("it is one", 1, tower.loadedAnew(0));
        });
        Sentences.hold(terms, "whenever,", () -> {
            Taped tower = asked(10);
            Towers.passTo(tower, 9999);
            Suite.is("in the last hour", 10, tower.load(0, 0, 10));
        });
        Sentences.hold(terms, "whatever became of its ITEM,", () -> {
            Taped tower = asked(new int[] {10, 10}, 0);
            tower.cut(0, 0);
            Suite.is("a part was cut", 10, tower.load(0, 0, 10));
            tower.withdraw(0);
            Suite.is("it was withdrawn", 20, tower.load(0, 10, 20));
            Taped song = new Taped();
            song.music(1, 5);
            song.item(0, 0);
            song.ask(0, 0);
            song.songOut(1);
            Suite.is("its song went out", 5, song.load(0, 0, 5));
        });
        Sentences.hold(terms, "also more than once.", () -> {
            Taped tower = asked(10);
            for (int i = 0; i < 200; i++) {
                Suite.is("the second 3", 1, tower.load(0, 3, 4));
            }
            Suite.is("found anew", 1, tower.loadedAnew(0));
        });
    }

    private static void countingTerms() {
        int terms = Sentences.TERMS;
        Sentences.hold(terms, "By the rule LOOSE 0 a DOWNLOAD counts, if a second of it is LOADED.", () -> {
            for (int second : new int[] {0, 1, 50, 98, 99}) {
                Taped tower = asked(99 + 1);
                Suite.is("none is", false, tower.counts(0, 0));
                tower.load(0, second, second + 1);
                Suite.is("the second " + second, true, tower.counts(0, 0));
                tower.bot(0, true);
                Suite.is("also of a bot", true, tower.counts(0, 0));
            }
            Taped none = Towers.slots(0);
            none.ask(0, 0);
            Suite.is("there is none", false, none.counts(0, 0));
            Taped ad = adBetweenTalks(5);
            ad.load(0, 5, 6);
            Suite.is("a second of an ad alone", " 1 0", Edges.each((on, download) -> counts(on, download, 0), ad, 0, 1));
            Suite.is("it is of the item's count", 1, ad.count(0, 0));
        });
        Sentences.hold(terms, "By STRICT 1 it counts, if its listener is no bot now,", () -> {
            Taped tower = asked(60);
            tower.load(0, 0, 60);
            Suite.is("never was", true, tower.counts(0, 1));
            tower.bot(0, true);
            Suite.is("is now", false, tower.counts(0, 1));
            tower.bot(0, false);
            Suite.is("was", true, tower.counts(0, 1));
            tower.bot(1, true);
            Suite.is("another one is", true, tower.counts(0, 1));
            Taped ahead = Towers.talks(60);
            ahead.bot(0, true);
            ahead.ask(0, 0);
            ahead.load(0, 0, 60);
            ahead.bot(0, false);
            Suite.is("was as they asked and loaded", true, ahead.counts(0, 1));
        });
        Sentences.hold(terms, "at least 60 of its seconds are LOADED,", () -> {
            Suite.is("58 to 61 of 999", " 0 0 1 1", Edges.each((tower, loaded) -> strictOf(999, loaded), null, 58, 61));
            Suite.is("58 to 61 of 61", " 0 0 1 1", Edges.each((tower, loaded) -> strictOf(61, loaded), null, 58, 61));
            Suite.is("58 to 60 of 60", " 0 0 1", Edges.each((tower, loaded) -> strictOf(60, loaded), null, 58, 60));
            Taped apart = asked(200);
            for (int i = 0; i < 59; i++) {
                apart.load(0, 3 * i, 3 * i + 1);
            }
            Suite.is("59 that are apart", false, apart.counts(0, 1));
            apart.load(0, 0, 1);
            Suite.is("one of them anew", false, apart.counts(0, 1));
            apart.load(0, 199, 200);
            Suite.is("60 that are apart", true, apart.counts(0, 1));
            Taped ad = adBetweenTalks(60);
            ad.load(0, 3, 62);
            Suite.is("59 of 66, all of an ad", false, ad.counts(0, 1));
            ad.load(0, 62, 63);
            Suite.is("60 of 66, all of an ad", true, ad.counts(0, 1));
            ad.load(1, 0, 3);
            ad.load(1, 63, 66);
            Suite.is("all of the talks, 6 of 66", false, ad.counts(1, 1));
        });
        Sentences.hold(terms, "or all, if it has less,", () -> {
            Suite.is("57 to 59 of 59", " 0 0 1", Edges.each((tower, loaded) -> strictOf(59, loaded), null, 57, 59));
            Suite.is("0 to 2 of 2", " 0 0 1", Edges.each((tower, loaded) -> strictOf(2, loaded), null, 0, 2));
            Taped ad = adBetweenTalks(5);
            ad.load(0, 0, 3);
            ad.load(0, 8, 11);
            Suite.is("all but the ad", false, ad.counts(0, 1));
            ad.load(0, 3, 8);
            Suite.is("the ad with them", true, ad.counts(0, 1));
        });
        Sentences.hold(terms, "and one at least,", () -> {
            Suite.is("0 to 1 of 1", " 0 1", Edges.each((tower, loaded) -> strictOf(1, loaded), null, 0, 1));
            Taped none = Towers.slots(0, 1);
            none.ask(0, 0);
            Suite.is("all of none", false, none.counts(0, 1));
            Suite.is("of the item", 0, none.count(0, 1));
        });
        Sentences.hold(terms, "and no DOWNLOAD of the same listener and ITEM with a lower number that counts by STRICT"
                + " was asked for in the same hour or up to 23 hours ahead of it.", DownloadEdges::strictHours);
    }

    private static int strictOf(int seconds, int loaded) {
        Taped tower = asked(seconds);
        if (loaded > 0) {
            tower.load(0, 0, loaded);
        }
        return counts(tower, 0, FeedTower.STRICT);
    }

    private static void strictHours() {
        int[] hours = {0, 1, 22, 23, 24, 25};
        for (int later : hours) {
            Taped tower = asked(10);
            tower.load(0, 0, 10);
            Towers.passTo(tower, later);
            tower.ask(0, 0);
            tower.load(1, 0, 10);
            Suite.is("the second one, " + later + " hours behind", later >= 24, tower.counts(1, 1));
            Suite.is("the first one", true, tower.counts(0, 1));
        }
        Taped others = asked(new int[] {10}, 0, 1, 0);
        Towers.addTalks(others, 0, 0, 10);
        others.ask(0, 1);
        others.load(2, 0, 10);
        others.load(1, 0, 10);
        others.load(3, 0, 10);
        Suite.is("one that does not count, another listener, another item", " 0 1 1 1",
                Edges.each((on, download) -> counts(on, download, 1), others, 0, 3));
        others.load(0, 0, 9);
        Suite.is("one that does not count yet", " 0 1 1 1", Edges.each((on, download) -> counts(on, download, 1), others, 0, 3));
        others.load(0, 9, 10);
        Suite.is("one that does", " 1 1 0 1", Edges.each((on, download) -> counts(on, download, 1), others, 0, 3));
        Taped chain = asked(10);
        chain.load(0, 0, 10);
        for (int i = 1; i < 8; i++) {
            chain.pass(i == 7 ? 24 : 12);
            chain.ask(0, 0);
            chain.load(i, 0, 10);
        }
        Suite.is("each 12 hours, the last 24", " 1 0 1 0 1 0 1 1", Edges.each((on, download) -> counts(on, download, 1), chain, 0, 7));
        Suite.is("they are counted", 5, chain.count(0, 1));
        Taped tens = Towers.talks(10);
        for (int i = 0; i < 8; i++) {
            tens.pass(i == 0 ? 7 : 10);
            tens.ask(0, 0);
            tens.load(i, 0, 10);
        }
        Suite.is("each 10 hours, whatever the days", " 1 0 0 1 0 0 1 0", Edges.each((on, download) -> counts(on, download, 1), tens, 0, 7));
    }

    private static void heardTerms() {
        int terms = Sentences.TERMS;
        Sentences.hold(terms, "An ad is HEARD, if all its seconds are LOADED,", () -> {
            for (int seconds : new int[] {5, 6, 59, 60}) {
                Taped tower = adBetweenTalks(seconds);
                tower.load(0, 0, 3 + seconds - 1);
                Suite.is("all but the last", 0, tower.ofCampaign(0, 2));
                tower.load(1, 3 + 1, 3 + seconds + 3);
                Suite.is("all but the first, of another download", 0, tower.ofCampaign(0, 2));
                tower.load(0, 3 + seconds, 3 + seconds + 3);
                Suite.is("and what is behind it", 0, tower.ofCampaign(0, 2));
                tower.load(0, 3 + seconds - 1, 3 + seconds);
                Suite.is("the last", 1, tower.ofCampaign(0, 2));
                tower.load(1, 3, 4);
                Suite.is("the first, of the other one", 2, tower.ofCampaign(0, 2));
                tower.cut(0, 1);
                tower.withdraw(0);
                Suite.is("whatever became of the slot and the item", 2, tower.ofCampaign(0, 2));
            }
        });
        Sentences.hold(terms, "and the listener is no bot now.", () -> {
            Taped tower = adBetweenTalks(5);
            tower.bot(0, true);
            tower.load(0, 3, 8);
            tower.load(1, 3, 8);
            Suite.is("one is", 1, tower.ofCampaign(0, 2));
            tower.bot(1, true);
            Suite.is("both are", 0, tower.ofCampaign(0, 2));
            tower.bot(0, false);
            Suite.is("one was", 1, tower.ofCampaign(0, 2));
            tower.bot(1, false);
            Suite.is("both were", 2, tower.ofCampaign(0, 2));
        });
    }

    /** A talk of 3, an ad, a talk of 3, that the listeners 0 and 1 asked for. */
    private static Taped adBetweenTalks(int seconds) {
        Taped tower = new Taped();
        tower.talk(3);
        tower.slot(0);
        tower.talk(3);
        tower.item(0, 0);
        tower.campaign(0, 0, seconds, 0, 1, 9, 3);
        tower.ask(0, 0);
        tower.ask(1, 0);
        return tower;
    }

    private static String goesOn(Taped tower) {
        return Edges.each((on, download) -> on.ofDownload(download, 6), tower, 0, tower.ofItem(0, 7) - 1);
    }

    private static void goingOnTerms() {
        int terms = Sentences.TERMS;
        Sentences.hold(terms, "The REACH of a listener in an ITEM is the greatest number of a PART that is a TALK or a MUSIC,"
                + " and in it the greatest second, that is LOADED in some DOWNLOAD of them of that ITEM,", DownloadEdges::reach);
        Sentences.hold(terms, "PARTS that were CUT since with them.", () -> {
            Taped tower = asked(new int[] {10, 20, 30}, 0, 0);
            tower.load(0, 15, 16);
            tower.cut(0, 1);
            tower.ask(0, 0);
            Suite.is("of a part that was cut since", " 16 16 10", goesOn(tower));
            tower.load(2, 0, 1);
            Suite.is("a lower part is none", " 16 16 10", goesOn(tower));
            tower.load(2, 10, 11);
            Suite.is("a greater one is", " 31 31 11", goesOn(tower));
            Taped last = asked(new int[] {10, 20, 30, 40}, 0);
            last.load(0, 30, 60);
            last.cut(0, 2);
            last.ask(0, 0);
            Suite.is("behind all of the part ahead of it", " 60 30", goesOn(last));
            last.load(0, 60, 61);
            Suite.is("and in the part behind it", " 61 31", goesOn(last));
        });
        Sentences.hold(terms, "To go on in a DOWNLOAD of it is at the second behind the last one in it that is of a TALK or a MUSIC"
                + " and not beyond the REACH, by the number of its PART, and in that one by the second in it", DownloadEdges::placeToGoOn);
        Sentences.hold(terms, "; at 0 without such a one.", () -> {
            Taped tower = asked(new int[] {10, 10}, 0, 1);
            Suite.is("no reach", " 0 0", goesOn(tower));
            tower.load(0, 0, 10);
            tower.cut(0, 0);
            tower.ask(0, 0);
            Suite.is("all is beyond the reach", " 10 0 0", goesOn(tower));
            Taped slots = Towers.slots(0);
            slots.campaign(0, 0, 5, 0, 1, 9, 3);
            slots.ask(0, 0);
            slots.load(0, 0, 5);
            Suite.is("an ad alone", " 0", goesOn(slots));
        });
    }

    private static void reach() {
        Taped tower = asked(new int[] {10, 20, 30}, 0, 0, 1);
        tower.load(0, 9, 10);
        Suite.is("the last of part 0", " 10 10 0", goesOn(tower));
        tower.load(1, 10, 11);
        Suite.is("the first of part 1, in another download", " 11 11 0", goesOn(tower));
        tower.load(0, 0, 10);
        Suite.is("lower ones change nothing", " 11 11 0", goesOn(tower));
        tower.load(0, 28, 29);
        tower.load(0, 20, 21);
        Suite.is("the greatest of part 1", " 29 29 0", goesOn(tower));
        tower.load(2, 59, 60);
        Suite.is("another listener's", " 29 29 60", goesOn(tower));
        Towers.addTalks(tower, 0, 0, 10, 20, 30);
        tower.ask(0, 1);
        tower.load(3, 59, 60);
        Suite.is("another item's", " 29 29 60", goesOn(tower));
        Taped far = asked(new int[] {999, 999, 1}, 0);
        far.load(0, 998, 999);
        Suite.is("the last second of the longest part", " 999", goesOn(far));
        far.load(0, 1997, 1998);
        Suite.is("of the next one", " 1998", goesOn(far));
        far.load(0, 1998, 1999);
        Suite.is("of the shortest", " 1999", goesOn(far));
    }

    private static void placeToGoOn() {
        Taped tower = new Taped();
        tower.slot(0);
        tower.talk(10);
        tower.slot(1);
        tower.music(1, 20);
        tower.slot(2);
        tower.item(0, 0);
        tower.campaign(0, 0, 5, 0, 1, 1, 1);
        tower.campaign(1, 1, 7, 0, 1, 1, 1);
        tower.campaign(2, 2, 9, 0, 1, 1, 1);
        tower.ask(0, 0);
        tower.ask(0, 0);
        tower.load(0, 0, 5);
        Suite.is("an ad is no reach", " 0 0", goesOn(tower));
        tower.load(0, 5, 6);
        Suite.is("the first of the talk", " 6 1", goesOn(tower));
        tower.load(0, 6, 15);
        Suite.is("the last of the talk; the ad behind it is not passed", " 15 10", goesOn(tower));
        tower.load(0, 15, 22);
        Suite.is("nor if it is loaded", " 15 10", goesOn(tower));
        tower.load(1, 10, 11);
        Suite.is("the first of the music, from the other one", " 23 11", goesOn(tower));
        tower.load(0, 41, 42);
        Suite.is("the last of the music", " 42 30", goesOn(tower));
        tower.load(0, 42, 51);
        Suite.is("the ad behind it is not passed", " 42 30", goesOn(tower));
        tower.cut(0, 3);
        tower.ask(0, 0);
        Suite.is("the music is cut: behind the talk", " 42 30 10", goesOn(tower));
        Taped ad = adBetweenTalks(5);
        ad.load(0, 8, 9);
        ad.cut(0, 2);
        ad.ask(0, 0);
        Suite.is("the ad is not beyond the reach, but it is no talk", " 9 0 3", goesOn(ad));
        Suite.is("the ad stands behind the talk", 8, ad.ofDownload(2, 3));
        Taped unheard = adBetweenTalks(5);
        unheard.load(0, 3, 8);
        Suite.is("the talk ahead of an ad is not reached by the ad", " 0 0", goesOn(unheard));
        Taped cut = asked(new int[] {10, 20, 30}, 0);
        cut.cut(0, 0);
        cut.ask(0, 0);
        cut.load(1, 5, 6);
        Suite.is("by the number of the part, and by the second in it", " 16 6", goesOn(cut));
    }

    private static void correctionTerms() {
        int terms = Sentences.TERMS;
        Sentences.hold(terms, "A listener is OWED a correction of an ITEM, if a second of a TALK or a MUSIC of it that is CUT by now"
                + " is LOADED in a DOWNLOAD of them,", DownloadEdges::owed);
        Sentences.hold(terms, "and they were not told of that PART since it was CUT", () -> {
            Taped tower = asked(new int[] {5, 5, 5}, 0);
            tower.load(0, 0, 15);
            tower.tell(0, 0);
            tower.cut(0, 0);
            Suite.is("told ahead of the cut", true, tower.isOwed(0, 0));
            tower.tell(0, 0);
            Suite.is("told behind it", false, tower.isOwed(0, 0));
            tower.cut(0, 2);
            Suite.is("told of another part alone", true, tower.isOwed(0, 0));
            tower.tell(0, 0);
            Suite.is("told of both", false, tower.isOwed(0, 0));
        });
        Sentences.hold(terms, ": to tell a listener is to tell of all PARTS of the ITEM that are CUT by then,"
                + " LOADED or not, for good.", () -> {
            Taped tower = asked(new int[] {5, 5, 5, 5}, 0, 0);
            tower.load(0, 0, 1);
            tower.cut(0, 0);
            tower.cut(0, 2);
            tower.tell(0, 0);
            tower.load(0, 10, 15);
            Suite.is("one that was not loaded then", false, tower.isOwed(0, 0));
            tower.load(1, 0, 15);
            Suite.is("in another download", false, tower.isOwed(0, 0));
            tower.load(1, 15, 20);
            tower.cut(0, 3);
            Suite.is("one that was not cut then", true, tower.isOwed(0, 0));
            tower.tell(0, 0);
            tower.withdraw(0);
            Towers.passTo(tower, 9999);
            Suite.is("for good", false, tower.isOwed(0, 0));
            Taped unowed = asked(new int[] {5, 5}, 0);
            unowed.cut(0, 0);
            Suite.is("as nothing is loaded", false, unowed.tell(0, 0));
            unowed.load(0, 0, 5);
            Suite.is("it was told all the same", false, unowed.isOwed(0, 0));
            Taped nobody = asked(new int[] {5, 5}, 0);
            nobody.cut(0, 0);
            nobody.tell(0, 7);
            Suite.is("one without a download", false, nobody.isOwed(0, 7));
        });
    }

    private static void owed() {
        for (int second : new int[] {0, 9, 10, 11, 28, 29, 30, 59}) {
            Taped tower = asked(new int[] {10, 20, 30}, 0);
            tower.load(0, second, second + 1);
            Suite.is("nothing is cut", false, tower.isOwed(0, 0));
            tower.cut(0, 1);
            Suite.is("the second " + second + ", the part from 10 to ahead of 30", second >= 10 && second < 30, tower.isOwed(0, 0));
        }
        Taped slots = new Taped();
        slots.talk(5);
        slots.slot(0);
        slots.music(1, 5);
        slots.item(0, 0);
        slots.campaign(0, 0, 5, 0, 1, 9, 3);
        slots.ask(0, 0);
        slots.load(0, 5, 10);
        slots.cut(0, 1);
        Suite.is("an ad, whose slot is cut", false, slots.isOwed(0, 0));
        slots.load(0, 10, 11);
        slots.songOut(1);
        Suite.is("a music", true, slots.isOwed(0, 0));
        Taped later = asked(new int[] {5, 5}, 0);
        later.cut(0, 0);
        later.ask(0, 0);
        later.load(1, 0, 5);
        Suite.is("a download without it", false, later.isOwed(0, 0));
        later.load(0, 4, 5);
        Suite.is("loaded as it was cut", true, later.isOwed(0, 0));
    }
}
