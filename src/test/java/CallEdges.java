import java.util.function.IntSupplier;

/** The words of the terms on calls: how many there are, which exception comes first, and what changes nothing. */
final class CallEdges {
    private static final int TERMS = Sentences.TERMS;

    private CallEdges() {
    }

    static void all() {
        manyCalls();
        constants();
        Sentences.hold(TERMS, "A call that throws an exception changes nothing.", CallEdges::refusedCallsChangeNothing);
        Sentences.hold(TERMS, "If several exceptions apply, the one that is named first in the throws clause is thrown.",
                CallEdges::firstNamedIsThrown);
        noSuchOne();
        Sentences.hold(TERMS, "Ahead of the calls `hour`, `ofItem`, `ofPart`, `told`, `ofCampaign`, `ofDownload`, `ad`, `loadedAnew`,"
                + " `counts`, `count`, `isOwed` the interface says: ---- what there is; nothing from here on changes anything.",
                CallEdges::looksChangeNothing);
        wordsWithoutAnEdge();
    }

    private static void manyCalls() {
        Sentences.hold(TERMS, "An object is used for at most 512 calls after it has been made; what later calls answer is free.", () -> {
            FeedTower passes = new FeedTower();
            for (int call = 1; call <= 512; call++) {
                Suite.is("pass, call " + call, call, passes.pass(1));
            }
            FeedTower refused = new FeedTower();
            for (int call = 1; call <= 510; call++) {
                Suite.is("talk(0), call " + call, true, isRefused(() -> refused.talk(0)));
            }
            Suite.is("talk, call 511", 1, refused.talk(1));
            Suite.is("item, call 512", 0, refused.item(0, 0));
            FeedTower loads = new FeedTower();
            loads.talk(999);
            loads.item(0, 0);
            loads.ask(0, 0);
            for (int i = 0; i < 200; i++) {
                loads.load(0, 4 * i, 4 * i + 3);
                Suite.is("loadedAnew", 3 * i + 3, loads.loadedAnew(0));
            }
            for (int call = 404; call < 511; call++) {
                loads.bot(call % 10, call % 3 == 0);
            }
            Suite.is("ofDownload, call 511", 600, loads.ofDownload(0, 4));
            Suite.is("ofDownload, call 512", 799, loads.ofDownload(0, 6));
        });
    }

    private static boolean isRefused(IntSupplier call) {
        try {
            call.getAsInt();
            return false;
        } catch (IllegalArgumentException refused) {
            return true;
        }
    }

    private static void constants() {
        Sentences.hold(TERMS, "`NONE = -1`", () -> Suite.is("NONE", -1, FeedTower.NONE));
        Sentences.hold(TERMS, "`TALK = 0, MUSIC = 1, SLOT = 2`", () ->
            Suite.is("the kinds", "0 1 2", FeedTower.TALK + " " + FeedTower.MUSIC + " " + FeedTower.SLOT));
        Sentences.hold(TERMS, "`LOOSE = 0, STRICT = 1`", () -> Suite.is("the rules", "0 1", FeedTower.LOOSE + " " + FeedTower.STRICT));
    }

    /** Suite.refuses looks for changes as deep as calls can tell: here in towers that have something of everything. */
    private static void refusedCallsChangeNothing() {
        Taped tower = Towers.full();
        tower.withdraw(1);
        index(tower, "music", () -> tower.music(10, 1));
        argument(tower, "music", () -> tower.music(0, 301));
        state(tower, "music", () -> tower.music(9, 1));
        argument(tower, "talk", () -> tower.talk(0));
        argument(tower, "slot", () -> tower.slot(3));
        index(tower, "item", () -> tower.item(4, 0));
        argument(tower, "item", () -> tower.item(0, -1));
        index(tower, "cut", () -> tower.cut(0, 3));
        state(tower, "cut", () -> tower.cut(0, 0));
        state(tower, "cut", () -> tower.cut(1, 0));
        state(tower, "withdraw", () -> withdraw(tower, 1));
        index(tower, "withdraw", () -> withdraw(tower, 2));
        index(tower, "songOut", () -> tower.songOut(10));
        state(tower, "songOut", () -> tower.songOut(9));
        argument(tower, "pass", () -> tower.pass(0));
        argument(tower, "pass", () -> tower.pass(1000));
        index(tower, "app", () -> tower.app(4));
        index(tower, "poll", () -> tower.poll(1));
        argument(tower, "campaign", () -> tower.campaign(0, 0, 5, 0, 1, 1, 4));
        index(tower, "ask", () -> tower.ask(10, 0));
        state(tower, "ask", () -> tower.ask(0, 1));
        index(tower, "load", () -> tower.load(1, 0, 1));
        argument(tower, "load", () -> tower.load(0, 0, 101));
        index(tower, "bot", () -> tower.bot(10, true) ? 1 : 0);
        index(tower, "bot", () -> tower.bot(-24, false) ? 1 : 0);
        index(tower, "tell", () -> tower.tell(0, 10) ? 1 : 0);
        index(tower, "tell", () -> tower.tell(2, 0) ? 1 : 0);
        tower.withdraw(0);
        tower.poll(0);
        state(tower, "withdraw of one that is released", () -> withdraw(tower, 0));
        state(tower, "cut of one that is released", () -> tower.cut(0, 1));
        Taped brimful = Towers.brimful();
        state(brimful, "talk", () -> brimful.talk(1));
        state(brimful, "music", () -> brimful.music(0, 1));
        state(brimful, "slot", () -> brimful.slot(0));
        state(brimful, "item", () -> brimful.item(0, 0));
        state(brimful, "app", () -> brimful.app(0));
        state(brimful, "campaign", () -> brimful.campaign(0, 0, 5, 0, 1, 1, 1));
        state(brimful, "ask", () -> brimful.ask(0, 0));
        state(brimful, "load", () -> brimful.load(0, 0, 1));
        Taped end = Towers.at(9999);
        state(end, "pass", () -> end.pass(1));
    }

    private static void index(Taped tower, String what, IntSupplier call) {
        Suite.refuses(tower, what, Suite.INDEX, call);
    }

    private static void argument(Taped tower, String what, IntSupplier call) {
        Suite.refuses(tower, what, Suite.ARGUMENT, call);
    }

    private static void state(Taped tower, String what, IntSupplier call) {
        Suite.refuses(tower, what, Suite.STATE, call);
    }

    private static int withdraw(Taped tower, int item) {
        tower.withdraw(item);
        return 0;
    }

    private static void firstNamedIsThrown() {
        Taped tower = Towers.brimful();
        state(tower, "talk: it has 10", () -> tower.talk(999));
        argument(tower, "talk: seconds, and it has 10", () -> tower.talk(1000));
        state(tower, "music: it has 10, and song 9 is out", () -> tower.music(9, 300));
        argument(tower, "music: seconds, it has 10, song 9 is out", () -> tower.music(9, 301));
        index(tower, "music: song, seconds, it has 10", () -> tower.music(10, 301));
        index(tower, "music: song, it has 10", () -> tower.music(-1, 1));
        state(tower, "slot: it has 10", () -> tower.slot(2));
        argument(tower, "slot: place, and it has 10", () -> tower.slot(3));
        state(tower, "item: there are 24", () -> tower.item(3, 0));
        argument(tower, "item: hour, and there are 24", () -> tower.item(3, -1));
        index(tower, "item: show, hour, and there are 24", () -> tower.item(4, -1));
        index(tower, "item: show, and there are 24", () -> tower.item(4, 0));
        state(tower, "app: there are 6", () -> tower.app(3));
        index(tower, "app: show, and there are 6", () -> tower.app(4));
        state(tower, "campaign: there are 8", () -> tower.campaign(0, 0, 5, 0, 1, 1, 1));
        argument(tower, "campaign: daily, and there are 8", () -> tower.campaign(0, 0, 5, 0, 1, 1, 0));
        state(tower, "ask: there are 60", () -> tower.ask(0, 0));
        state(tower, "ask: item 1 is not released, and there are 60", () -> tower.ask(0, 1));
        index(tower, "ask: listener, item 1 is not released, and there are 60", () -> tower.ask(10, 1));
        index(tower, "ask: item, and there are 60", () -> tower.ask(0, 24));
        state(tower, "load: there were 200", () -> tower.load(0, 0, 1));
        argument(tower, "load: to, and there were 200", () -> tower.load(0, 0, 1 << 30));
        index(tower, "load: download, to, and there were 200", () -> tower.load(60, 0, 1 << 30));
        index(tower, "load: download, and there were 200", () -> tower.load(60, 0, 1));
        firstNamedOfOthers();
        firstNamedOfLooks();
    }

    private static void firstNamedOfOthers() {
        Taped empty = new Taped();
        state(empty, "item: the draft has no part", () -> empty.item(0, 0));
        argument(empty, "item: hour, and the draft has no part", () -> empty.item(0, 10000));
        index(empty, "item: show, hour, and the draft has no part", () -> empty.item(-1, 10000));
        Taped tower = Towers.full();
        tower.withdraw(1);
        state(tower, "cut: the item is withdrawn, whatever its parts", () -> tower.cut(1, 1));
        index(tower, "cut: part, and the item is withdrawn", () -> tower.cut(1, 2));
        index(tower, "cut: item, part", () -> tower.cut(2, 2));
        state(tower, "songOut: it is out", () -> tower.songOut(9));
        state(tower, "ask: the item is neither released nor to be had", () -> tower.ask(0, 1));
        index(tower, "ask: listener, and the item is neither", () -> tower.ask(-1, 1));
        Taped end = Towers.at(9999);
        argument(end, "pass: hours, and it would be above 9999", () -> end.pass(1000));
        argument(end, "pass: hours, and it would be far above", () -> end.pass(Integer.MAX_VALUE));
        state(end, "pass: it would be above 9999", () -> end.pass(999));
    }

    private static void firstNamedOfLooks() {
        Taped tower = Towers.full();
        index(tower, "ofItem: item, what", () -> tower.ofItem(2, 8));
        argument(tower, "ofItem: what", () -> tower.ofItem(1, 8));
        index(tower, "ofPart: item, part, what", () -> tower.ofPart(2, 9, 4));
        index(tower, "ofPart: part, what", () -> tower.ofPart(1, 2, 4));
        argument(tower, "ofPart: what", () -> tower.ofPart(1, 1, 4));
        index(tower, "ofCampaign: campaign, what", () -> tower.ofCampaign(1, 3));
        argument(tower, "ofCampaign: what", () -> tower.ofCampaign(0, 3));
        index(tower, "ofDownload: download, what", () -> tower.ofDownload(1, 7));
        argument(tower, "ofDownload: what", () -> tower.ofDownload(0, 7));
        index(tower, "counts: download, rule", () -> tower.counts(1, 2) ? 1 : 0);
        argument(tower, "counts: rule", () -> tower.counts(0, 2) ? 1 : 0);
        index(tower, "count: item, rule", () -> tower.count(2, 2));
        argument(tower, "count: rule", () -> tower.count(1, 2));
    }

    private static void noSuchOne() {
        Sentences.hold(TERMS, "A method that takes a show, an ITEM, a PART, an APP, a CAMPAIGN, a listener, a DOWNLOAD or a song"
                + " throws IndexOutOfBoundsException if there is no such one.", () -> {
            Edges.Call[] shows = {(tower, show) -> tower.item(show, 0), (tower, show) -> tower.app(show)};
            Edges.Call[] songs = {(tower, song) -> song == 9 ? 0 : tower.music(song, 1),
                (tower, song) -> song == 9 ? 0 : tower.songOut(song)};
            Edges.Call[] listeners = {(tower, listener) -> tower.ask(listener, 0), (tower, listener) -> tower.bot(listener, true) ? 1 : 0,
                (tower, listener) -> tower.tell(0, listener) ? 1 : 0, (tower, listener) -> tower.isOwed(0, listener) ? 1 : 0};
            Edges.Call[] items = {(tower, item) -> tower.cut(item, 1), CallEdges::withdraw,
                (tower, item) -> item == 1 ? 0 : tower.ask(0, item), (tower, item) -> tower.tell(item, 0) ? 1 : 0,
                (tower, item) -> tower.ofItem(item, 0), (tower, item) -> tower.ofPart(item, 0, 0), (tower, item) -> tower.count(item, 0),
                (tower, item) -> tower.isOwed(item, 0) ? 1 : 0};
            Edges.Call[] parts = {(tower, part) -> part == 0 ? 0 : tower.cut(0, part), (tower, part) -> tower.ofPart(0, part, 0)};
            Edges.Call[] ones = {(tower, app) -> tower.poll(app), (tower, app) -> tower.told(app, 0),
                (tower, campaign) -> tower.ofCampaign(campaign, 0), (tower, download) -> tower.load(download, 0, 1),
                (tower, download) -> tower.ofDownload(download, 0), (tower, download) -> tower.loadedAnew(download),
                (tower, download) -> tower.counts(download, 0) ? 1 : 0, (tower, download) -> tower.ad(download, 0)};
            each("show", 0, 3, shows);
            each("song", 0, 9, songs);
            each("listener", 0, 9, listeners);
            each("item", 0, 1, items);
            each("part", 0, 2, parts);
            each("app, campaign or download", 0, 0, ones);
            Edges.range("part of a download", Towers::full, 0, 2, Suite.INDEX, (tower, at) -> tower.ad(0, at));
        });
    }

    private static void each(String what, int least, int most, Edges.Call... calls) {
        for (int i = 0; i < calls.length; i++) {
            Edges.range(what + ", call " + i, Towers::full, least, most, Suite.INDEX, calls[i]);
        }
    }

    private static void looksChangeNothing() {
        for (Taped tower : new Taped[] {Towers.empty(), Towers.full(), Towers.brimful()}) {
            String before = Depths.of(tower);
            IntSupplier[] looks = {tower::hour, () -> tower.ofItem(0, 7), () -> tower.ofPart(0, 0, 3), () -> tower.told(0, 0),
                () -> tower.ofCampaign(0, 2), () -> tower.ofDownload(0, 6), () -> tower.ad(0, 0), () -> tower.loadedAnew(0),
                () -> tower.counts(0, 1) ? 1 : 0, () -> tower.count(0, 1), () -> tower.isOwed(0, 0) ? 1 : 0};
            for (IntSupplier look : looks) {
                String first = answer(look);
                Suite.is("the same look anew", first, answer(look));
            }
            Suite.is("the tower behind all looks", before, Depths.of(tower));
            Suite.is("its looks are the same anew", Suite.look(tower), Suite.look(tower));
        }
    }

    private static String answer(IntSupplier call) {
        try {
            return "answers " + call.getAsInt();
        } catch (IndexOutOfBoundsException refused) {
            return "is refused";
        }
    }

    /** What only tells in other words what the sentences behind it say, and what stands above some of them. */
    private static void wordsWithoutAnEdge() {
        String[] words = {
            "A network of voices to download: items of parts with slots, released by the hour, cut and withdrawn, feeds that are polled"
                + " by tags and neither miss nor repeat, campaigns whose ads are put in at the moment of asking, paced, and barred by days"
                + " and rivals, downloads that are loaded in ranges, counts by rules that can be proved from the log, places at which one"
                + " goes on in another download, corrections owed to those who heard what was cut, and songs that go out.",
            "Loading, counts", "Going on, corrections", "The constants: ", ": There is none.", ": Kinds of PARTS.", ": Rules.",
            "Ahead of the calls `talk`, `music`, `slot`, `item`, `cut`, `withdraw`, `songOut`, `pass` the interface says: ---- items.",
            "Ahead of the calls `app`, `poll` the interface says: ---- feeds.",
            "Ahead of the calls `campaign`, `ask`, `load`, `bot`, `tell` the interface says: ---- campaigns, downloads.",
        };
        for (String some : words) {
            Sentences.name(TERMS, some);
        }
    }
}
