import java.util.ArrayList;

/**
 * A network of voices to download: items, feeds, campaigns, downloads, counts and corrections.
 * The document ../shared/DOC.md says what each call does, answers and throws.
 */
public final class FeedTower {
    public static final int NONE = -1;
    public static final int TALK = 0, MUSIC = 1, SLOT = 2;
    public static final int LOOSE = 0, STRICT = 1;

    private static final int SHOWS = 4;
    private static final int SONGS = 10;
    private static final int LISTENERS = 10;
    private static final int LAST_PLACE = 2;
    private static final int LAST_GROUP = 4;
    private static final int LAST_HOUR = 9999;
    private static final int HOURS_OF_A_DAY = 24;
    private static final int MOST_TALK_SECONDS = 999;
    private static final int MOST_MUSIC_SECONDS = 300;
    private static final int MOST_HOURS_PASSED = 999;
    private static final int MOST_PARTS = 10;
    private static final int MOST_ITEMS = 24;
    private static final int MOST_APPS = 6;
    private static final int MOST_CAMPAIGNS = 8;
    private static final int MOST_DOWNLOADS = 60;
    private static final int MOST_RANGES = 200;
    private static final int STRICT_SECONDS = 60;

    /** More than the seconds of any part: part * step + second then sorts as part and second do. */
    private static final int PART_STEP = 1000;

    private final ArrayList<Item> items = new ArrayList<>();
    private final ArrayList<Item> changes = new ArrayList<>();
    private final ArrayList<App> apps = new ArrayList<>();
    private final ArrayList<Campaign> campaigns = new ArrayList<>();
    private final ArrayList<Download> downloads = new ArrayList<>();
    private ArrayList<Part> draft = new ArrayList<>();
    private int now = 0;
    private int songsOut = 0;
    private int bots = 0;
    private int ranges = 0;

    public FeedTower() {
    }

    // ---- items

    public int talk(int seconds) throws IllegalArgumentException, IllegalStateException {
        if (!isIn(seconds, 1, MOST_TALK_SECONDS)) {
            throw new IllegalArgumentException("seconds is out of range");
        }
        return addToDraft(new Part(TALK, seconds, NONE));
    }

    public int music(int song, int seconds)
            throws IndexOutOfBoundsException, IllegalArgumentException, IllegalStateException {
        needSong(song);
        if (!isIn(seconds, 1, MOST_MUSIC_SECONDS)) {
            throw new IllegalArgumentException("seconds is out of range");
        }
        if (hasBit(songsOut, song)) {
            throw new IllegalStateException("the song is out");
        }
        return addToDraft(new Part(MUSIC, seconds, song));
    }

    public int slot(int place) throws IllegalArgumentException, IllegalStateException {
        if (!isIn(place, 0, LAST_PLACE)) {
            throw new IllegalArgumentException("place is out of range");
        }
        return addToDraft(new Part(SLOT, 0, place));
    }

    public int item(int show, int hour)
            throws IndexOutOfBoundsException, IllegalArgumentException, IllegalStateException {
        needShow(show);
        if (!isIn(hour, now, LAST_HOUR)) {
            throw new IllegalArgumentException("hour is out of range");
        }
        if (!isDraftOfUse() || items.size() >= MOST_ITEMS) {
            throw new IllegalStateException("the draft has no part to stay, or there are too many items");
        }
        Item made = new Item(items.size(), show, hour, draft);
        draft = new ArrayList<>();
        items.add(made);
        cutWhatIsOut(made);
        noteChange(made);
        return made.number;
    }

    public int cut(int item, int part) throws IndexOutOfBoundsException, IllegalStateException {
        Item from = itemAt(item);
        Part gone = from.partAt(part);
        int left = from.uncutParts() - 1;
        if (gone.isCut || from.isWithdrawn || left < 1) {
            throw new IllegalStateException("the part is cut or the only one left, or the item is withdrawn");
        }
        gone.isCut = true;
        noteChange(from);
        return left;
    }

    public void withdraw(int item) throws IndexOutOfBoundsException, IllegalStateException {
        Item gone = itemAt(item);
        if (gone.isWithdrawn) {
            throw new IllegalStateException("the item is withdrawn");
        }
        gone.isWithdrawn = true;
        noteChange(gone);
    }

    public int songOut(int song) throws IndexOutOfBoundsException, IllegalStateException {
        needSong(song);
        if (hasBit(songsOut, song)) {
            throw new IllegalStateException("the song is out");
        }
        songsOut = withBit(songsOut, song);
        int all = 0;
        for (int i = 0; i < items.size(); i++) {
            Item item = items.get(i);
            int cuts = cutWhatIsOut(item);
            if (cuts > 0) {
                noteChange(item);
            }
            all += cuts;
        }
        return all;
    }

    public int pass(int hours) throws IllegalArgumentException, IllegalStateException {
        if (!isIn(hours, 1, MOST_HOURS_PASSED)) {
            throw new IllegalArgumentException("hours is out of range");
        }
        if (now + hours > LAST_HOUR) {
            throw new IllegalStateException("the hours come to an end");
        }
        // hour by hour, as items of an earlier hour are released ahead of lower ones of a later hour
        for (int passed = 0; passed < hours; passed++) {
            now++;
            releaseItemsOfThisHour();
        }
        return now;
    }

    // ---- feeds

    public int app(int show) throws IndexOutOfBoundsException, IllegalStateException {
        needShow(show);
        if (apps.size() >= MOST_APPS) {
            throw new IllegalStateException("there are too many apps");
        }
        apps.add(new App(show));
        return apps.size() - 1;
    }

    public int poll(int app) throws IndexOutOfBoundsException {
        App polling = appAt(app);
        polling.toldItems.clear();
        int toldAlready = 0;
        for (int i = Math.max(0, polling.changesSeen); i < changes.size(); i++) {
            Item item = changes.get(i);
            if (item.show == polling.show && !hasBit(toldAlready, item.number)) {
                toldAlready = withBit(toldAlready, item.number);
                polling.toldItems.add(item);
            }
        }
        polling.changesSeen = changes.size();
        return polling.toldItems.size();
    }

    // ---- campaigns, downloads

    public int campaign(int place, int group, int seconds, int from, int to, int many, int daily)
            throws IllegalArgumentException, IllegalStateException {
        if (!isIn(place, 0, LAST_PLACE) || !isIn(group, 0, LAST_GROUP) || !isIn(seconds, 5, 60)) {
            throw new IllegalArgumentException("place, group or seconds is out of range");
        }
        if (!isIn(from, 0, LAST_HOUR - 1) || !isIn(to, from + 1, LAST_HOUR)) {
            throw new IllegalArgumentException("from or to is out of range");
        }
        if (!isIn(many, 1, 99) || !isIn(daily, 1, 3)) {
            throw new IllegalArgumentException("many or daily is out of range");
        }
        if (campaigns.size() >= MOST_CAMPAIGNS) {
            throw new IllegalStateException("there are too many campaigns");
        }
        Campaign made = new Campaign(place, group, seconds, from, to, many, daily);
        made.number = campaigns.size();
        campaigns.add(made);
        return made.number;
    }

    public int ask(int listener, int item) throws IndexOutOfBoundsException, IllegalStateException {
        needListener(listener);
        Item asked = itemAt(item);
        if (!isReleased(asked) || asked.isWithdrawn || downloads.size() >= MOST_DOWNLOADS) {
            throw new IllegalStateException("the item is not to be had, or there are too many downloads");
        }
        Download made = new Download(downloads.size(), listener, item, now);
        for (int i = 0; i < asked.parts.size(); i++) {
            Part part = asked.parts.get(i);
            if (!part.isCut) {
                addToDownload(made, part, i);
            }
        }
        downloads.add(made);
        return made.number;
    }

    public int load(int download, int from, int to)
            throws IndexOutOfBoundsException, IllegalArgumentException, IllegalStateException {
        Download loading = downloadAt(download);
        if (from < 0 || from >= to || to > loading.seconds) {
            throw new IllegalArgumentException("from or to is out of range");
        }
        if (ranges >= MOST_RANGES) {
            throw new IllegalStateException("there were too many ranges");
        }
        ranges++;
        loading.addRange(from, to);
        return loading.loaded;
    }

    public boolean bot(int listener, boolean is) throws IndexOutOfBoundsException {
        needListener(listener);
        boolean was = hasBit(bots, listener);
        bots = is ? withBit(bots, listener) : bots & ~(1 << listener);
        return was;
    }

    public boolean tell(int item, int listener) throws IndexOutOfBoundsException {
        Item corrected = itemAt(item);
        needListener(listener);
        boolean was = wantsCorrection(item, listener);
        for (int i = 0; i < corrected.parts.size(); i++) {
            Part part = corrected.parts.get(i);
            if (part.isCut) {
                part.listenersTold = withBit(part.listenersTold, listener);
            }
        }
        return was;
    }

    // ---- what there is; nothing from here on changes anything

    public int hour() {
        return now;
    }

    public int ofItem(int item, int what) throws IndexOutOfBoundsException, IllegalArgumentException {
        Item of = itemAt(item);
        switch (what) {
            case 0:
                return of.show;
            case 1:
                return of.hour;
            case 2:
                return isReleased(of) ? 1 : 0;
            case 3:
                return of.isWithdrawn ? 1 : 0;
            case 4:
                return of.parts.size();
            case 5:
                return of.uncutParts();
            case 6:
                return of.uncutSeconds();
            case 7:
                return downloadsOf(item);
            default:
                throw new IllegalArgumentException("what is out of range");
        }
    }

    public int ofPart(int item, int part, int what) throws IndexOutOfBoundsException, IllegalArgumentException {
        Part of = itemAt(item).partAt(part);
        switch (what) {
            case 0:
                return of.kind;
            case 1:
                return of.seconds;
            case 2:
                return of.songOrPlace;
            case 3:
                return of.isCut ? 1 : 0;
            default:
                throw new IllegalArgumentException("what is out of range");
        }
    }

    public int told(int app, int at) throws IndexOutOfBoundsException {
        App of = appAt(app);
        if (at < 0) {
            throw new IndexOutOfBoundsException("at is below 0");
        }
        return at < of.toldItems.size() ? of.toldItems.get(at).number : NONE;
    }

    public int ofCampaign(int campaign, int what) throws IndexOutOfBoundsException, IllegalArgumentException {
        Campaign of = campaignAt(campaign);
        switch (what) {
            case 0:
                return of.adsPutIn;
            case 1:
                return of.dueIn(now);
            case 2:
                return adsHeard(of);
            default:
                throw new IllegalArgumentException("what is out of range");
        }
    }

    public int ofDownload(int download, int what) throws IndexOutOfBoundsException, IllegalArgumentException {
        Download of = downloadAt(download);
        switch (what) {
            case 0:
                return of.listener;
            case 1:
                return of.item;
            case 2:
                return of.hour;
            case 3:
                return of.seconds;
            case 4:
                return of.loaded;
            case 5:
                return of.pieces.size();
            case 6:
                return of.secondBehind(reach(of.listener, of.item));
            default:
                throw new IllegalArgumentException("what is out of range");
        }
    }

    public int ad(int download, int at) throws IndexOutOfBoundsException {
        Download of = downloadAt(download);
        if (at < 0 || at >= of.pieces.size()) {
            throw new IndexOutOfBoundsException("there is no such part of the download");
        }
        return of.pieces.get(at).campaign;
    }

    public int loadedAnew(int download) throws IndexOutOfBoundsException {
        Download of = downloadAt(download);
        return of.loadedIn(0, of.seconds);
    }

    public boolean counts(int download, int rule) throws IndexOutOfBoundsException, IllegalArgumentException {
        Download of = downloadAt(download);
        needRule(rule);
        return isCounted(of, rule);
    }

    public int count(int item, int rule) throws IndexOutOfBoundsException, IllegalArgumentException {
        itemAt(item);
        needRule(rule);
        int counted = 0;
        for (int i = 0; i < downloads.size(); i++) {
            Download download = downloads.get(i);
            if (download.item == item && isCounted(download, rule)) {
                counted++;
            }
        }
        return counted;
    }

    public boolean isOwed(int item, int listener) throws IndexOutOfBoundsException {
        itemAt(item);
        needListener(listener);
        return wantsCorrection(item, listener);
    }

    // ---- what is in range, and what there is of a number

    private static boolean isIn(int value, int least, int most) {
        return value >= least && value <= most;
    }

    private static boolean hasBit(int bits, int at) {
        return (bits & (1 << at)) != 0;
    }

    private static int withBit(int bits, int at) {
        return bits | (1 << at);
    }

    private static void needShow(int show) {
        if (show < 0 || show >= SHOWS) {
            throw new IndexOutOfBoundsException("there is no such show");
        }
    }

    private static void needSong(int song) {
        if (song < 0 || song >= SONGS) {
            throw new IndexOutOfBoundsException("there is no such song");
        }
    }

    private static void needListener(int listener) {
        if (listener < 0 || listener >= LISTENERS) {
            throw new IndexOutOfBoundsException("there is no such listener");
        }
    }

    private static void needRule(int rule) {
        if (rule != LOOSE && rule != STRICT) {
            throw new IllegalArgumentException("rule is out of range");
        }
    }

    private Item itemAt(int item) {
        if (item < 0 || item >= items.size()) {
            throw new IndexOutOfBoundsException("there is no such item");
        }
        return items.get(item);
    }

    private App appAt(int app) {
        if (app < 0 || app >= apps.size()) {
            throw new IndexOutOfBoundsException("there is no such app");
        }
        return apps.get(app);
    }

    private Campaign campaignAt(int campaign) {
        if (campaign < 0 || campaign >= campaigns.size()) {
            throw new IndexOutOfBoundsException("there is no such campaign");
        }
        return campaigns.get(campaign);
    }

    private Download downloadAt(int download) {
        if (download < 0 || download >= downloads.size()) {
            throw new IndexOutOfBoundsException("there is no such download");
        }
        return downloads.get(download);
    }

    // ---- the draft, cuts and changes

    private int addToDraft(Part part) {
        if (draft.size() >= MOST_PARTS) {
            throw new IllegalStateException("the draft has too many parts");
        }
        draft.add(part);
        return draft.size();
    }

    private boolean isOut(Part part) {
        return part.kind == MUSIC && hasBit(songsOut, part.songOrPlace);
    }

    private boolean isDraftOfUse() {
        for (int i = 0; i < draft.size(); i++) {
            if (!isOut(draft.get(i))) {
                return true;
            }
        }
        return false;
    }

    private int cutWhatIsOut(Item item) {
        int cuts = 0;
        for (int i = 0; i < item.parts.size(); i++) {
            Part part = item.parts.get(i);
            if (!part.isCut && isOut(part)) {
                part.isCut = true;
                cuts++;
            }
        }
        if (item.uncutParts() == 0) {
            item.isWithdrawn = true;
        }
        return cuts;
    }

    private boolean isReleased(Item item) {
        return item.hour <= now;
    }

    private void noteChange(Item item) {
        // what becomes of an item that is not released is no change
        if (isReleased(item)) {
            changes.add(item);
        }
    }

    private void releaseItemsOfThisHour() {
        for (int i = 0; i < items.size(); i++) {
            Item item = items.get(i);
            if (item.hour == now) {
                changes.add(item);
            }
        }
    }

    // ---- ads

    private void addToDownload(Download download, Part part, int number) {
        Campaign ad = part.kind == SLOT ? adFor(download, part.songOrPlace) : null;
        if (ad == null) {
            download.addPiece(part, number, part.seconds, NONE);
        } else {
            ad.adsPutIn++;
            download.campaignsIn = withBit(download.campaignsIn, ad.number);
            download.groupsIn = withBit(download.groupsIn, ad.group);
            download.addPiece(part, number, ad.seconds, ad.number);
        }
    }

    /** The campaign whose ad is put in, or null. One out of its hours is never behind. */
    private Campaign adFor(Download download, int place) {
        Campaign best = null;
        int most = 0;
        for (int i = 0; i < campaigns.size(); i++) {
            Campaign campaign = campaigns.get(i);
            int behind = campaign.dueIn(now) - campaign.adsPutIn;
            if (campaign.place == place && behind > most && isAllowed(campaign, download)) {
                best = campaign;
                most = behind;
            }
        }
        return best;
    }

    private boolean isAllowed(Campaign campaign, Download download) {
        // this download has no ad of the campaign yet, so the ones made ahead of it tell the whole day
        return !hasBit(download.groupsIn, campaign.group)
                && adsToday(campaign.number, download.listener) < campaign.daily;
    }

    private int adsToday(int campaign, int listener) {
        int today = now / HOURS_OF_A_DAY;
        int ads = 0;
        for (int i = 0; i < downloads.size(); i++) {
            Download download = downloads.get(i);
            if (download.listener == listener && download.hour / HOURS_OF_A_DAY == today
                    && hasBit(download.campaignsIn, campaign)) {
                ads++;
            }
        }
        return ads;
    }

    private int adsHeard(Campaign campaign) {
        int heard = 0;
        for (int i = 0; i < downloads.size(); i++) {
            Download download = downloads.get(i);
            if (!hasBit(bots, download.listener) && download.hasWholeAd(campaign.number)) {
                heard++;
            }
        }
        return heard;
    }

    // ---- counts, going on, corrections

    private int downloadsOf(int item) {
        int all = 0;
        for (int i = 0; i < downloads.size(); i++) {
            if (downloads.get(i).item == item) {
                all++;
            }
        }
        return all;
    }

    private boolean isCounted(Download download, int rule) {
        return rule == LOOSE ? download.loaded > 0 : isCountedStrictly(download);
    }

    private boolean isCountedStrictly(Download counted) {
        if (hasBit(bots, counted.listener) || !counted.isLoadedEnough()) {
            return false;
        }
        // downloads stand by their hours, so of those that count only the last one can be too near
        int lastHour = -HOURS_OF_A_DAY;
        for (int i = 0; i < counted.number && i < downloads.size(); i++) {
            Download earlier = downloads.get(i);
            if (earlier.isOf(counted.listener, counted.item) && earlier.isLoadedEnough()
                    && earlier.hour - lastHour >= HOURS_OF_A_DAY) {
                lastHour = earlier.hour;
            }
        }
        return counted.hour - lastHour >= HOURS_OF_A_DAY;
    }

    /** The greatest part and second loaded of a talk or a music, as part * PART_STEP + second; or NONE. */
    private int reach(int listener, int item) {
        int reach = NONE;
        for (int i = 0; i < downloads.size(); i++) {
            Download download = downloads.get(i);
            if (download.isOf(listener, item)) {
                reach = Math.max(reach, download.reach());
            }
        }
        return reach;
    }

    private boolean wantsCorrection(int item, int listener) {
        for (int i = 0; i < downloads.size(); i++) {
            Download download = downloads.get(i);
            if (download.isOf(listener, item) && download.hasLoadedUntoldCut()) {
                return true;
            }
        }
        return false;
    }

    /** A part of the draft or of an item. */
    private static final class Part {
        final int kind;
        final int seconds;
        final int songOrPlace;
        boolean isCut = false;
        int listenersTold = 0;

        Part(int kind, int seconds, int songOrPlace) {
            this.kind = kind;
            this.seconds = seconds;
            this.songOrPlace = songOrPlace;
        }
    }

    private static final class Item {
        final int number;
        final int show;
        final int hour;
        final ArrayList<Part> parts;
        boolean isWithdrawn = false;

        Item(int number, int show, int hour, ArrayList<Part> parts) {
            this.number = number;
            this.show = show;
            this.hour = hour;
            this.parts = parts;
        }

        Part partAt(int part) {
            if (part < 0 || part >= parts.size()) {
                throw new IndexOutOfBoundsException("there is no such part of the item");
            }
            return parts.get(part);
        }

        int uncutParts() {
            int uncut = 0;
            for (int i = 0; i < parts.size(); i++) {
                if (!parts.get(i).isCut) {
                    uncut++;
                }
            }
            return uncut;
        }

        int uncutSeconds() {
            int seconds = 0;
            for (int i = 0; i < parts.size(); i++) {
                Part part = parts.get(i);
                if (!part.isCut) {
                    seconds += part.seconds;
                }
            }
            return seconds;
        }
    }

    private static final class App {
        final int show;
        final ArrayList<Item> toldItems = new ArrayList<>();
        int changesSeen = 0;

        App(int show) {
            this.show = show;
        }
    }

    private static final class Campaign {
        final int place;
        final int group;
        final int seconds;
        final int from;
        final int to;
        final int many;
        final int daily;
        int number = NONE;
        int adsPutIn = 0;

        Campaign(int place, int group, int seconds, int from, int to, int many, int daily) {
            this.place = place;
            this.group = group;
            this.seconds = seconds;
            this.from = from;
            this.to = to;
            this.many = many;
            this.daily = daily;
        }

        int dueIn(int hour) {
            int allHours = to - from;
            if (allHours < 1 || hour < from || hour >= to) {
                return 0;
            }
            return many * (hour - from + 1) / allHours;
        }
    }

    /** A part as it is in one download: its number in the item, its seconds there, and the ad put in. */
    private static final class Piece {
        final Part part;
        final int number;
        final int start;
        final int end;
        final int campaign;

        Piece(Part part, int number, int start, int end, int campaign) {
            this.part = part;
            this.number = number;
            this.start = start;
            this.end = end;
            this.campaign = campaign;
        }
    }

    private static final class Range {
        final int from;
        final int to;

        Range(int from, int to) {
            this.from = from;
            this.to = to;
        }
    }

    private static final class Download {
        final int number;
        final int listener;
        final int item;
        final int hour;
        final ArrayList<Piece> pieces = new ArrayList<>();
        final ArrayList<Range> log = new ArrayList<>();
        int seconds = 0;
        int loaded = 0;
        int campaignsIn = 0;
        int groupsIn = 0;

        Download(int number, int listener, int item, int hour) {
            this.number = number;
            this.listener = listener;
            this.item = item;
            this.hour = hour;
        }

        boolean isOf(int aListener, int anItem) {
            return listener == aListener && item == anItem;
        }

        void addPiece(Part part, int number, int length, int campaign) {
            pieces.add(new Piece(part, number, seconds, seconds + length, campaign));
            seconds += length;
        }

        void addRange(int from, int to) {
            loaded += to - from - loadedIn(from, to);
            log.add(new Range(from, to));
        }

        /** How many seconds from one to ahead of another one are loaded, found from the log alone. */
        int loadedIn(int from, int to) {
            int found = 0;
            int next = from;
            for (int at = from; at < to; at = Math.max(at + 1, next)) {
                int end = Math.min(to, loadedUntil(at));
                found += end - at;
                next = end > at ? end : nextRangeBehind(at, to);
            }
            return found;
        }

        /** The furthest end of the ranges that a second is in; the second itself, if it is in none. */
        int loadedUntil(int second) {
            int until = second;
            for (int i = 0; i < log.size(); i++) {
                Range range = log.get(i);
                if (range.from <= second && range.to > until) {
                    until = range.to;
                }
            }
            return until;
        }

        int nextRangeBehind(int second, int limit) {
            int next = limit;
            for (int i = 0; i < log.size(); i++) {
                int from = log.get(i).from;
                if (from > second && from < next) {
                    next = from;
                }
            }
            return next;
        }

        /** The greatest loaded second from one to ahead of another one, or NONE. */
        int lastLoadedIn(int from, int to) {
            int last = NONE;
            for (int i = 0; i < log.size(); i++) {
                Range range = log.get(i);
                int end = Math.min(to, range.to);
                if (end > Math.max(from, range.from)) {
                    last = Math.max(last, end - 1);
                }
            }
            return last;
        }

        boolean isLoadedEnough() {
            return loaded > 0 && loaded >= Math.min(STRICT_SECONDS, seconds);
        }

        boolean hasWholeAd(int campaign) {
            for (int i = 0; i < pieces.size(); i++) {
                Piece piece = pieces.get(i);
                if (piece.campaign == campaign) {
                    // a group is in a download once, so there is no other ad of the campaign in it
                    return loadedIn(piece.start, piece.end) == piece.end - piece.start;
                }
            }
            return false;
        }

        boolean hasLoadedUntoldCut() {
            for (int i = 0; i < pieces.size(); i++) {
                Piece piece = pieces.get(i);
                Part part = piece.part;
                if (part.kind != SLOT && part.isCut && !hasBit(part.listenersTold, listener)
                        && lastLoadedIn(piece.start, piece.end) != NONE) {
                    return true;
                }
            }
            return false;
        }

        int reach() {
            int reach = NONE;
            for (int i = 0; i < pieces.size(); i++) {
                Piece piece = pieces.get(i);
                int last = piece.part.kind == SLOT ? NONE : lastLoadedIn(piece.start, piece.end);
                if (last != NONE) {
                    reach = piece.number * PART_STEP + last - piece.start;
                }
            }
            return reach;
        }

        /** The second behind the last one of a talk or a music that is not beyond a reach, or 0. */
        int secondBehind(int reach) {
            int behind = 0;
            for (int i = 0; i < pieces.size(); i++) {
                Piece piece = pieces.get(i);
                int reached = Math.min(piece.end - piece.start, reach - piece.number * PART_STEP + 1);
                if (piece.part.kind != SLOT && reached > 0) {
                    behind = piece.start + reached;
                }
            }
            return behind;
        }
    }
}
