/** Promises 14 to 16, 22 and 24 to 27: loading, bots, counts, places to go on at, and corrections. */
public final class DownloadsTest {
    public static void main(String[] args) {
        load();
        loadRefuses();
        twoHundredRanges();
        loadOfNoSeconds();
        loadedAnew();
        bot();
        ofDownload();
        goesOnInAnother();
        goesOnAheadOfWhatWasCut();
        goesOnPastSlots();
        countsRefuses();
        loose();
        strictSeconds();
        strictHours();
        strictChain();
        strictBots();
        strictListenersAndItems();
        count();
        owed();
        owedOnlyOfTalkAndMusic();
        tell();
        tellAheadOfLoading();
        tellOfOnePart();
        owedRefuses();
        Suite.end("DownloadsTest");
    }

    private static void load() {
        Taped tower = Towers.talks(100);
        tower.ask(0, 0);
        tower.ask(0, 0);
        Suite.is("load(0, 10, 20)", 10, tower.load(0, 10, 20));
        Suite.is("the same anew", 10, tower.load(0, 10, 20));
        Suite.is("within it", 10, tower.load(0, 12, 15));
        Suite.is("up to it", 15, tower.load(0, 5, 10));
        Suite.is("behind it", 20, tower.load(0, 20, 25));
        Suite.is("one apart", 25, tower.load(0, 30, 35));
        Suite.is("over a gap", 30, tower.load(0, 24, 31));
        Suite.is("over all", 100, tower.load(0, 0, 100));
        Suite.is("more than all", 100, tower.load(0, 99, 100));
        Suite.is("the other one is not loaded", 0, tower.ofDownload(1, 4));
        Suite.is("load(1, 99, 100)", 1, tower.load(1, 99, 100));
        Suite.is("load(1, 0, 1)", 2, tower.load(1, 0, 1));
        Suite.is("over both", 100, tower.load(1, 0, 100));
        tower.withdraw(0);
        Suite.is("load of a withdrawn one", 100, tower.load(1, 0, 1));
    }

    private static void loadRefuses() {
        Taped tower = Towers.talks(10);
        Suite.refuses(tower, "load(0, 0, 0) without a download", Suite.INDEX, () -> tower.load(0, 0, 0));
        tower.ask(0, 0);
        for (int far : Suite.FAR_OUT) {
            Suite.refuses(tower, "load(" + far + ", 5, 5)", Suite.INDEX, () -> tower.load(far, 5, 5));
            Suite.refuses(tower, "load(0, " + far + ", 10)", Suite.ARGUMENT, () -> tower.load(0, far, 10));
            Suite.refuses(tower, "load(0, 0, " + far + ")", Suite.ARGUMENT, () -> tower.load(0, 0, far));
            Suite.refuses(tower, "load(0, " + far + ", " + far + ")", Suite.ARGUMENT, () -> tower.load(0, far, far));
        }
        Suite.refuses(tower, "load(1, 0, 1)", Suite.INDEX, () -> tower.load(1, 0, 1));
        Suite.refuses(tower, "load(0, 0, 11)", Suite.ARGUMENT, () -> tower.load(0, 0, 11));
        Suite.refuses(tower, "load(0, 10, 11)", Suite.ARGUMENT, () -> tower.load(0, 10, 11));
        Suite.refuses(tower, "load(0, 5, 5)", Suite.ARGUMENT, () -> tower.load(0, 5, 5));
        Suite.refuses(tower, "load(0, 5, 4)", Suite.ARGUMENT, () -> tower.load(0, 5, 4));
        Suite.refuses(tower, "load(0, 0, 0)", Suite.ARGUMENT, () -> tower.load(0, 0, 0));
        Suite.is("load(0, 0, 10)", 10, tower.load(0, 0, 10));
    }

    private static void twoHundredRanges() {
        Taped tower = Towers.talks(300);
        tower.ask(0, 0);
        tower.ask(1, 0);
        for (int i = 0; i < 199; i++) {
            tower.load(i % 2, i, i + 1);
        }
        Suite.is("the 200th range", 100, tower.load(1, 0, 1));
        Suite.is("loaded of 0", 100, tower.ofDownload(0, 4));
        Suite.is("found anew", 100, tower.loadedAnew(0));
        Suite.refuses(tower, "a 201st range", Suite.STATE, () -> tower.load(0, 0, 1));
        Suite.refuses(tower, "a 201st range, of another download", Suite.STATE, () -> tower.load(1, 0, 1));
        Suite.refuses(tower, "a 201st range of no download", Suite.INDEX, () -> tower.load(2, 0, 1));
        Suite.refuses(tower, "a 201st range out of range", Suite.ARGUMENT, () -> tower.load(1, 0, 301));
    }

    private static void loadOfNoSeconds() {
        Taped tower = new Taped();
        tower.slot(0);
        tower.item(0, 0);
        tower.ask(0, 0);
        Suite.refuses(tower, "load(0, 0, 0)", Suite.ARGUMENT, () -> tower.load(0, 0, 0));
        Suite.refuses(tower, "load(0, 0, 1)", Suite.ARGUMENT, () -> tower.load(0, 0, 1));
        Suite.is("it is of no seconds, and counts by no rule", " 0 0 0 0 0 1 0 ads -1 anew 0 - -", Suite.download(tower, 0));
    }

    private static void loadedAnew() {
        Taped tower = Towers.talks(500);
        Suite.refuses(tower, "loadedAnew(0) without one", Suite.INDEX, () -> tower.loadedAnew(0));
        tower.ask(0, 0);
        tower.ask(0, 0);
        for (int far : Suite.FAR_OUT) {
            Suite.refuses(tower, "loadedAnew(" + far + ")", Suite.INDEX, () -> tower.loadedAnew(far));
        }
        Suite.refuses(tower, "loadedAnew(2)", Suite.INDEX, () -> tower.loadedAnew(2));
        Suite.is("nothing is loaded", 0, tower.loadedAnew(0));
        boolean[] loaded = new boolean[500];
        for (int i = 0; i < 60; i++) {
            int from = i * 83 % 470;
            int to = from + 1 + i * 7 % 30;
            int all = 0;
            for (int second = 0; second < 500; second++) {
                loaded[second] |= second >= from && second < to;
                all += loaded[second] ? 1 : 0;
            }
            Suite.is("load", all, tower.load(0, from, to));
            Suite.is("loadedAnew", all, tower.loadedAnew(0));
        }
        Suite.is("the other one", 0, tower.loadedAnew(1));
    }

    private static void bot() {
        Taped tower = Towers.talks(70);
        for (int far : Suite.FAR_OUT) {
            Suite.refusesTest(tower, "bot(" + far + ", true)", Suite.INDEX, () -> tower.bot(far, true));
        }
        Suite.refusesTest(tower, "bot(10, false)", Suite.INDEX, () -> tower.bot(10, false));
        Suite.is("it was not told ahead", false, tower.bot(0, true));
        Suite.is("it was told", true, tower.bot(0, true));
        Suite.is("it was told till now", true, tower.bot(0, false));
        Suite.is("they are no bot", false, tower.bot(0, false));
        Suite.is("another one", false, tower.bot(9, true));
        Suite.is("and another one", false, tower.bot(8, true));
        Suite.is("the first of them is one all the same", true, tower.bot(9, true));
        Suite.is("and listener 0 is none", false, tower.bot(0, false));
    }

    private static void ofDownload() {
        Taped tower = new Taped();
        Suite.refuses(tower, "ofDownload(0, 0) without one", Suite.INDEX, () -> tower.ofDownload(0, 0));
        tower.talk(9);
        tower.item(3, 0);
        tower.talk(30);
        tower.slot(0);
        tower.slot(1);
        tower.item(2, 0);
        tower.campaign(1, 0, 15, 0, 50, 99, 3);
        tower.pass(7);
        tower.ask(6, 1);
        for (int far : Suite.FAR_OUT) {
            Suite.refuses(tower, "ofDownload(" + far + ", 9)", Suite.INDEX, () -> tower.ofDownload(far, 9));
            Suite.refuses(tower, "ofDownload(0, " + far + ")", Suite.ARGUMENT, () -> tower.ofDownload(0, far));
        }
        Suite.refuses(tower, "ofDownload(1, 7)", Suite.INDEX, () -> tower.ofDownload(1, 7));
        Suite.refuses(tower, "ofDownload(0, 7)", Suite.ARGUMENT, () -> tower.ofDownload(0, 7));
        Suite.is("of the download", " 6 1 7 45 0 3 0 ads -1 -1 0 anew 0 - -", Suite.download(tower, 0));
        tower.load(0, 10, 20);
        tower.pass(3);
        Suite.is("of the download", " 6 1 7 45 10 3 20 ads -1 -1 0 anew 10 loose -", Suite.download(tower, 0));
        tower.cut(1, 1);
        Suite.is("it stays as it was asked for", " 6 1 7 45 10 3 20 ads -1 -1 0 anew 10 loose -", Suite.download(tower, 0));
    }

    private static void goesOnInAnother() {
        Taped tower = Towers.talks(10, 20, 30);
        tower.talk(10);
        tower.talk(50);
        tower.item(0, 0);
        tower.ask(0, 0);
        tower.ask(0, 0);
        tower.ask(1, 0);
        tower.ask(0, 1);
        Suite.is("nothing is loaded", 0, tower.ofDownload(0, 6));
        tower.load(0, 12, 13);
        Suite.is("behind the second", 13, tower.ofDownload(0, 6));
        Suite.is("in another download of it", 13, tower.ofDownload(1, 6));
        Suite.is("not of another listener", 0, tower.ofDownload(2, 6));
        Suite.is("not of another item", 0, tower.ofDownload(3, 6));
        tower.load(1, 0, 5);
        Suite.is("a lower second changes nothing", 13, tower.ofDownload(0, 6));
        tower.load(1, 40, 41);
        Suite.is("a greater one does", 41, tower.ofDownload(0, 6));
        tower.load(0, 59, 60);
        Suite.is("at the end", 60, tower.ofDownload(1, 6));
        Suite.is("not of another listener", 0, tower.ofDownload(2, 6));
    }

    private static void goesOnAheadOfWhatWasCut() {
        Taped tower = Towers.talks(10, 20, 30, 40);
        tower.ask(0, 0);
        tower.cut(0, 1);
        tower.ask(0, 0);
        tower.cut(0, 0);
        tower.ask(0, 0);
        tower.load(0, 15, 16);
        Suite.is("in the part itself", 16, tower.ofDownload(0, 6));
        Suite.is("the part is cut: behind the one ahead of it", 10, tower.ofDownload(1, 6));
        Suite.is("that one is cut, too: from the start", 0, tower.ofDownload(2, 6));
        tower.load(2, 4, 5);
        Suite.is("by the number of the part", 35, tower.ofDownload(0, 6));
        Suite.is("and in it by the second", 15, tower.ofDownload(1, 6));
        Suite.is("and in its own", 5, tower.ofDownload(2, 6));
        tower.load(1, 9, 10);
        Suite.is("a second of a lower part is greater, the part is not", 5, tower.ofDownload(2, 6));
        tower.load(0, 25, 61);
        Suite.is("up to the next part", 61, tower.ofDownload(0, 6));
        Suite.is("up to the next part", 41, tower.ofDownload(1, 6));
        Suite.is("up to the next part", 31, tower.ofDownload(2, 6));
    }

    private static void goesOnPastSlots() {
        Taped tower = new Taped();
        tower.slot(0);
        tower.music(1, 10);
        tower.slot(1);
        tower.talk(10);
        tower.slot(2);
        tower.item(0, 0);
        tower.campaign(0, 0, 7, 0, 1, 1, 1);
        tower.campaign(1, 1, 9, 0, 1, 2, 1);
        tower.campaign(2, 2, 11, 0, 1, 2, 1);
        tower.ask(3, 0);
        tower.ask(3, 0);
        tower.load(0, 0, 7);
        Suite.is("an ad alone is no reach", 0, tower.ofDownload(0, 6));
        tower.load(0, 7, 17);
        Suite.is("ahead of the ad, behind the music", 17, tower.ofDownload(0, 6));
        Suite.is("in another one, that has no ads", 10, tower.ofDownload(1, 6));
        tower.load(0, 17, 27);
        Suite.is("a second of the talk", 27, tower.ofDownload(0, 6));
        Suite.is("a second of the talk", 11, tower.ofDownload(1, 6));
        tower.load(0, 36, 47);
        Suite.is("an ad behind it is no reach", 27, tower.ofDownload(0, 6));
        tower.load(1, 19, 20);
        Suite.is("ahead of the last ad", 36, tower.ofDownload(0, 6));
        Suite.is("at the end of another one", 20, tower.ofDownload(1, 6));
    }

    private static void countsRefuses() {
        Taped tower = Towers.talks(10);
        Suite.refusesTest(tower, "counts(0, 2) without one", Suite.INDEX, () -> tower.counts(0, 2));
        tower.ask(0, 0);
        for (int far : Suite.FAR_OUT) {
            Suite.refusesTest(tower, "counts(" + far + ", 2)", Suite.INDEX, () -> tower.counts(far, 2));
            Suite.refusesTest(tower, "counts(0, " + far + ")", Suite.ARGUMENT, () -> tower.counts(0, far));
            Suite.refuses(tower, "count(" + far + ", 2)", Suite.INDEX, () -> tower.count(far, 2));
            Suite.refuses(tower, "count(0, " + far + ")", Suite.ARGUMENT, () -> tower.count(0, far));
        }
        Suite.refusesTest(tower, "counts(1, 0)", Suite.INDEX, () -> tower.counts(1, 0));
        Suite.refusesTest(tower, "counts(0, 2)", Suite.ARGUMENT, () -> tower.counts(0, 2));
        Suite.refuses(tower, "count(1, 0)", Suite.INDEX, () -> tower.count(1, 0));
        Suite.refuses(tower, "count(0, 2)", Suite.ARGUMENT, () -> tower.count(0, 2));
        Taped empty = new Taped();
        Suite.refuses(empty, "count(0, 2) without an item", Suite.INDEX, () -> empty.count(0, 2));
    }

    private static void loose() {
        Taped tower = Towers.talks(500);
        tower.ask(0, 0);
        tower.ask(0, 0);
        Suite.is("nothing is loaded", false, tower.counts(0, FeedTower.LOOSE));
        tower.load(0, 499, 500);
        tower.bot(0, true);
        Suite.is("a second is, bot or not", true, tower.counts(0, FeedTower.LOOSE));
        Suite.is("not of the other one", false, tower.counts(1, FeedTower.LOOSE));
        tower.load(1, 0, 1);
        Suite.is("two in an hour", true, tower.counts(1, FeedTower.LOOSE));
        Suite.is("two count", 2, tower.count(0, FeedTower.LOOSE));
    }

    private static void strictSeconds() {
        Taped tower = Towers.talks(61);
        tower.talk(30);
        tower.item(0, 0);
        tower.talk(60);
        tower.item(0, 0);
        tower.ask(0, 0);
        tower.ask(0, 1);
        tower.ask(0, 2);
        tower.load(0, 0, 59);
        Suite.is("59 of 61", false, tower.counts(0, FeedTower.STRICT));
        tower.load(0, 60, 61);
        Suite.is("60 of 61", true, tower.counts(0, FeedTower.STRICT));
        tower.load(1, 0, 29);
        Suite.is("29 of 30", false, tower.counts(1, FeedTower.STRICT));
        tower.load(1, 0, 30);
        Suite.is("30 of 30", true, tower.counts(1, FeedTower.STRICT));
        tower.load(2, 1, 60);
        Suite.is("59 of 60", false, tower.counts(2, FeedTower.STRICT));
        tower.load(2, 0, 1);
        Suite.is("60 of 60", true, tower.counts(2, FeedTower.STRICT));
        tower.talk(1);
        tower.item(0, 0);
        tower.ask(0, 3);
        Suite.is("0 of 1", false, tower.counts(3, FeedTower.STRICT));
        tower.load(3, 0, 1);
        Suite.is("1 of 1", true, tower.counts(3, FeedTower.STRICT));
    }

    private static void strictHours() {
        Taped tower = Towers.talks(10);
        tower.ask(0, 0);
        tower.ask(0, 0);
        tower.pass(23);
        tower.ask(0, 0);
        tower.pass(1);
        tower.ask(0, 0);
        tower.load(3, 0, 10);
        tower.load(2, 0, 10);
        Suite.is("asked for 1 hour ahead", false, tower.counts(3, FeedTower.STRICT));
        Suite.is("the first of them", true, tower.counts(2, FeedTower.STRICT));
        tower.load(1, 0, 10);
        Suite.is("asked for 23 hours ahead", false, tower.counts(2, FeedTower.STRICT));
        Suite.is("asked for 24 hours ahead", true, tower.counts(3, FeedTower.STRICT));
        tower.load(0, 0, 10);
        Suite.is("asked for in the same hour", false, tower.counts(1, FeedTower.STRICT));
        Suite.is("the first one", true, tower.counts(0, FeedTower.STRICT));
        Suite.is("23 hours ahead", false, tower.counts(2, FeedTower.STRICT));
        Suite.is("24 hours ahead", true, tower.counts(3, FeedTower.STRICT));
    }

    private static void strictChain() {
        Taped tower = Towers.talks(10);
        for (int i = 0; i < 10; i++) {
            tower.ask(0, 0);
            tower.load(i, 0, 10);
            tower.pass(10);
        }
        StringBuilder counted = new StringBuilder();
        for (int i = 0; i < 10; i++) {
            counted.append(tower.counts(i, FeedTower.STRICT) ? 'x' : '.');
        }
        Suite.is("one that does not count bars none", "x..x..x..x", counted.toString());
        Suite.is("they are counted", 4, tower.count(0, FeedTower.STRICT));
    }

    private static void strictBots() {
        Taped tower = Towers.talks(10);
        tower.ask(0, 0);
        tower.ask(1, 0);
        tower.load(0, 0, 10);
        tower.load(1, 0, 10);
        tower.bot(0, true);
        Suite.is("a bot", false, tower.counts(0, FeedTower.STRICT));
        Suite.is("no bot", true, tower.counts(1, FeedTower.STRICT));
        Suite.is("one counts", 1, tower.count(0, FeedTower.STRICT));
        Suite.is("two count loosely", 2, tower.count(0, FeedTower.LOOSE));
        tower.bot(0, false);
        Suite.is("no bot now", true, tower.counts(0, FeedTower.STRICT));
        Suite.is("two count", 2, tower.count(0, FeedTower.STRICT));
    }

    private static void strictListenersAndItems() {
        Taped tower = Towers.talks(10);
        tower.talk(10);
        tower.item(0, 0);
        tower.ask(0, 0);
        tower.ask(1, 0);
        tower.ask(0, 1);
        for (int i = 0; i < 3; i++) {
            tower.load(i, 0, 10);
            Suite.is("neither another listener nor another item bars", true, tower.counts(i, FeedTower.STRICT));
        }
    }

    private static void count() {
        Taped tower = Towers.talks(10);
        tower.talk(80);
        tower.item(0, 0);
        Suite.is("no download", 0, tower.count(0, FeedTower.LOOSE));
        tower.ask(0, 0);
        tower.ask(0, 0);
        tower.ask(5, 0);
        tower.ask(0, 1);
        Suite.is("none is loaded", 0, tower.count(0, FeedTower.LOOSE));
        tower.load(0, 0, 10);
        tower.load(1, 0, 10);
        tower.load(2, 0, 9);
        tower.load(3, 0, 59);
        Suite.is("loose of 0", 3, tower.count(0, FeedTower.LOOSE));
        Suite.is("strict of 0", 1, tower.count(0, FeedTower.STRICT));
        Suite.is("loose of 1", 1, tower.count(1, FeedTower.LOOSE));
        Suite.is("strict of 1", 0, tower.count(1, FeedTower.STRICT));
        tower.withdraw(0);
        tower.withdraw(1);
        tower.load(2, 9, 10);
        tower.load(3, 59, 60);
        Suite.is("strict of 0, as it is withdrawn", 2, tower.count(0, FeedTower.STRICT));
        Suite.is("strict of 1, as it is withdrawn", 1, tower.count(1, FeedTower.STRICT));
    }

    private static void owed() {
        Taped tower = Towers.talks(10, 20, 30);
        tower.ask(0, 0);
        tower.ask(1, 0);
        tower.ask(1, 0);
        tower.load(0, 10, 11);
        tower.load(1, 9, 10);
        tower.load(2, 29, 30);
        Suite.is("nothing is cut", false, tower.isOwed(0, 0));
        tower.cut(0, 1);
        Suite.is("a second of it is loaded", true, tower.isOwed(0, 0));
        Suite.is("in another download", true, tower.isOwed(0, 1));
        Suite.is("not of another listener", false, tower.isOwed(0, 2));
        tower.bot(0, true);
        Suite.is("bots as others", true, tower.isOwed(0, 0));
        tower.withdraw(0);
        Suite.is("of a withdrawn one", true, tower.isOwed(0, 0));
    }

    private static void owedOnlyOfTalkAndMusic() {
        Taped tower = new Taped();
        tower.talk(10);
        tower.slot(0);
        tower.music(2, 10);
        tower.slot(1);
        tower.item(0, 0);
        tower.campaign(0, 0, 5, 0, 1, 9, 3);
        tower.ask(0, 0);
        tower.load(0, 0, 15);
        tower.cut(0, 1);
        Suite.is("a slot that is cut", false, tower.isOwed(0, 0));
        tower.songOut(2);
        Suite.is("a music of which nothing is loaded", false, tower.isOwed(0, 0));
        tower.load(0, 24, 25);
        Suite.is("the music, loaded as it is cut", true, tower.isOwed(0, 0));
        tower.tell(0, 0);
        tower.cut(0, 0);
        Suite.is("the talk", true, tower.isOwed(0, 0));
    }

    private static void tell() {
        Taped tower = Towers.talks(10, 20, 30);
        tower.ask(0, 0);
        tower.ask(1, 0);
        tower.load(0, 0, 60);
        tower.load(1, 0, 60);
        Suite.is("nothing is cut", false, tower.tell(0, 0));
        tower.cut(0, 0);
        Suite.is("what was told ahead of the cut is not told", true, tower.isOwed(0, 0));
        Suite.is("tell", true, tower.tell(0, 0));
        Suite.is("they were told", false, tower.isOwed(0, 0));
        Suite.is("tell anew", false, tower.tell(0, 0));
        Suite.is("another listener was not", true, tower.isOwed(0, 1));
        tower.load(0, 0, 5);
        Suite.is("for good", false, tower.isOwed(0, 0));
        tower.cut(0, 1);
        Suite.is("another part that is cut", true, tower.isOwed(0, 0));
        Suite.is("tell", true, tower.tell(0, 0));
        Suite.is("they were told", false, tower.isOwed(0, 0));
        Suite.is("tell another listener of both", true, tower.tell(0, 1));
        Suite.is("they were told of both", false, tower.isOwed(0, 1));
    }

    private static void tellAheadOfLoading() {
        Taped tower = Towers.talks(10, 20);
        tower.ask(0, 0);
        tower.ask(9, 0);
        tower.cut(0, 0);
        Suite.is("they are not owed it", false, tower.tell(0, 0));
        tower.load(0, 0, 5);
        tower.load(1, 0, 5);
        Suite.is("loaded or not, they were told", false, tower.isOwed(0, 0));
        Suite.is("one who was not told", true, tower.isOwed(0, 9));
    }

    private static void tellOfOnePart() {
        Taped tower = Towers.talks(10, 20);
        tower.talk(10);
        tower.talk(10);
        tower.item(0, 9);
        tower.cut(1, 0);
        Suite.is("tell of one that is not released", false, tower.tell(1, 3));
        tower.ask(3, 0);
        tower.load(0, 0, 10);
        tower.cut(0, 0);
        Suite.is("another item was not told of", true, tower.isOwed(0, 3));
        Suite.is("nor is it owed", false, tower.isOwed(1, 3));
    }

    private static void owedRefuses() {
        Taped tower = new Taped();
        Suite.refusesTest(tower, "isOwed(0, 0) without an item", Suite.INDEX, () -> tower.isOwed(0, 0));
        Suite.refusesTest(tower, "tell(0, 0) without an item", Suite.INDEX, () -> tower.tell(0, 0));
        tower.talk(1);
        tower.item(0, 0);
        for (int far : Suite.FAR_OUT) {
            Suite.refusesTest(tower, "isOwed(" + far + ", 0)", Suite.INDEX, () -> tower.isOwed(far, 0));
            Suite.refusesTest(tower, "isOwed(0, " + far + ")", Suite.INDEX, () -> tower.isOwed(0, far));
            Suite.refusesTest(tower, "tell(" + far + ", 0)", Suite.INDEX, () -> tower.tell(far, 0));
            Suite.refusesTest(tower, "tell(0, " + far + ")", Suite.INDEX, () -> tower.tell(0, far));
        }
        Suite.refusesTest(tower, "isOwed(0, 10)", Suite.INDEX, () -> tower.isOwed(0, 10));
        Suite.refusesTest(tower, "isOwed(1, 0)", Suite.INDEX, () -> tower.isOwed(1, 0));
        Suite.refusesTest(tower, "tell(0, 10)", Suite.INDEX, () -> tower.tell(0, 10));
        Suite.refusesTest(tower, "tell(1, 0)", Suite.INDEX, () -> tower.tell(1, 0));
        Suite.is("isOwed(0, 9)", false, tower.isOwed(0, 9));
        Suite.is("tell(0, 9)", false, tower.tell(0, 9));
    }
}
