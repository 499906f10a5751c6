import java.util.ArrayList;
import java.util.List;
import java.util.Set;
import java.util.TreeSet;

/**
 * The document once more, in the plainest words: every second stands for itself and everything is found
 * anew from what happened. ModelTest holds FeedTower against it.
 */
public final class PlainTower {
    private static final class PlainPart {
        int kind;
        int seconds;
        int which;
        boolean cut;
        final Set<Integer> told = new TreeSet<>();
    }

    private static final class PlainItem {
        int show;
        int hour;
        List<PlainPart> parts;
        boolean withdrawn;
    }

    private static final class PlainCampaign {
        int place;
        int group;
        int seconds;
        int from;
        int to;
        int many;
        int daily;
    }

    private static final class PlainAd {
        int campaign;
        int listener;
        int hour;
        int download;
    }

    /** One second of a download: of which of its parts, and which second of that. */
    private static final class Second {
        int place;
        int part;
        int at;
        boolean ad;
        boolean loaded;
    }

    private static final class PlainDownload {
        int listener;
        int item;
        int hour;
        final List<Integer> parts = new ArrayList<>();
        final List<Integer> ads = new ArrayList<>();
        final List<Second> seconds = new ArrayList<>();
    }

    private int hour = 0;
    private int ranges = 0;
    private List<PlainPart> draft = new ArrayList<>();
    private final List<PlainItem> items = new ArrayList<>();
    private final List<Integer> changes = new ArrayList<>();
    private final List<Integer> appShows = new ArrayList<>();
    private final List<Integer> appSeen = new ArrayList<>();
    private final List<List<Integer>> appTold = new ArrayList<>();
    private final List<PlainCampaign> campaigns = new ArrayList<>();
    private final List<PlainAd> ads = new ArrayList<>();
    private final List<PlainDownload> downloads = new ArrayList<>();
    private final Set<Integer> out = new TreeSet<>();
    private final Set<Integer> bots = new TreeSet<>();

    private static void index(boolean good) {
        if (!good) {
            throw new IndexOutOfBoundsException();
        }
    }

    private static void argument(boolean good) {
        if (!good) {
            throw new IllegalArgumentException();
        }
    }

    private static void state(boolean good) {
        if (!good) {
            throw new IllegalStateException();
        }
    }

    private static boolean of(int value, int size) {
        return 0 <= value && value < size;
    }

    private int draftOne(int kind, int seconds, int which) {
        PlainPart part = new PlainPart();
        part.kind = kind;
        part.seconds = seconds;
        part.which = which;
        draft.add(part);
        return draft.size();
    }

    public int talk(int seconds) {
        argument(1 <= seconds && seconds <= 999);
        state(draft.size() != 10);
        return draftOne(0, seconds, -1);
    }

    public int music(int song, int seconds) {
        index(of(song, 10));
        argument(1 <= seconds && seconds <= 300);
        state(draft.size() != 10 && !out.contains(song));
        return draftOne(1, seconds, song);
    }

    public int slot(int place) {
        argument(of(place, 3));
        state(draft.size() != 10);
        return draftOne(2, 0, place);
    }

    public int item(int show, int at) {
        index(of(show, 4));
        argument(hour <= at && at <= 9999);
        state(draft.stream().anyMatch(part -> part.kind != 1 || !out.contains(part.which)));
        state(items.size() != 24);
        PlainItem item = new PlainItem();
        item.show = show;
        item.hour = at;
        item.parts = draft;
        for (PlainPart part : draft) {
            part.cut = part.kind == 1 && out.contains(part.which);
        }
        draft = new ArrayList<>();
        items.add(item);
        if (at == hour) {
            changes.add(items.size() - 1);
        }
        return items.size() - 1;
    }

    private boolean released(int item) {
        return items.get(item).hour <= hour;
    }

    private int left(int item) {
        return (int) items.get(item).parts.stream().filter(part -> !part.cut).count();
    }

    public int cut(int item, int part) {
        index(of(item, items.size()) && of(part, items.get(item).parts.size()));
        PlainPart gone = items.get(item).parts.get(part);
        state(!gone.cut && !items.get(item).withdrawn && left(item) != 1);
        gone.cut = true;
        if (released(item)) {
            changes.add(item);
        }
        return left(item);
    }

    public void withdraw(int item) {
        index(of(item, items.size()));
        state(!items.get(item).withdrawn);
        items.get(item).withdrawn = true;
        if (released(item)) {
            changes.add(item);
        }
    }

    public int songOut(int song) {
        index(of(song, 10));
        state(out.add(song));
        int all = 0;
        for (int i = 0; i < items.size(); i++) {
            int ahead = left(i);
            for (PlainPart part : items.get(i).parts) {
                part.cut |= part.kind == 1 && part.which == song;
            }
            int cuts = ahead - left(i);
            all += cuts;
            if (left(i) == 0) {
                items.get(i).withdrawn = true;
            }
            if (cuts != 0 && released(i)) {
                changes.add(i);
            }
        }
        return all;
    }

    public int pass(int hours) {
        argument(1 <= hours && hours <= 999);
        state(hour + hours <= 9999);
        int until = hour + hours;
        while (hour < until) {
            hour++;
            for (int i = 0; i < items.size(); i++) {
                if (items.get(i).hour == hour) {
                    changes.add(i);
                }
            }
        }
        return hour;
    }

    public int app(int show) {
        index(of(show, 4));
        state(appShows.size() != 6);
        appShows.add(show);
        appSeen.add(0);
        appTold.add(new ArrayList<>());
        return appShows.size() - 1;
    }

    public int poll(int app) {
        index(of(app, appShows.size()));
        List<Integer> told = new ArrayList<>();
        for (int item : changes.subList(appSeen.get(app), changes.size())) {
            if (items.get(item).show == appShows.get(app) && !told.contains(item)) {
                told.add(item);
            }
        }
        appSeen.set(app, changes.size());
        appTold.set(app, told);
        return told.size();
    }

    public int campaign(int place, int group, int seconds, int from, int to, int many, int daily) {
        argument(of(place, 3) && of(group, 5) && 5 <= seconds && seconds <= 60);
        argument(0 <= from && from <= 9998 && from < to && to <= 9999);
        argument(1 <= many && many <= 99 && 1 <= daily && daily <= 3);
        state(campaigns.size() != 8);
        PlainCampaign made = new PlainCampaign();
        made.place = place;
        made.group = group;
        made.seconds = seconds;
        made.from = from;
        made.to = to;
        made.many = many;
        made.daily = daily;
        campaigns.add(made);
        return campaigns.size() - 1;
    }

    private boolean inHours(int campaign) {
        return campaigns.get(campaign).from <= hour && hour < campaigns.get(campaign).to;
    }

    private int due(int campaign) {
        PlainCampaign of = campaigns.get(campaign);
        int all = 0;
        int gone = 0;
        for (int at = of.from; at < of.to; at++) {
            all++;
            gone += at <= hour ? 1 : 0;
        }
        return inHours(campaign) ? of.many * gone / all : 0;
    }

    private int putIn(int campaign) {
        return (int) ads.stream().filter(ad -> ad.campaign == campaign).count();
    }

    private int best(int place, int listener, int download) {
        int best = -1;
        for (int i = campaigns.size() - 1; i >= 0; i--) {
            int campaign = i;
            int behind = due(i) - putIn(i);
            boolean rival = ads.stream().anyMatch(ad -> ad.download == download
                    && campaigns.get(ad.campaign).group == campaigns.get(campaign).group);
            long got = ads.stream().filter(ad -> ad.campaign == campaign && ad.listener == listener
                    && ad.hour / 24 == hour / 24).count();
            if (inHours(i) && campaigns.get(i).place == place && behind >= 1 && !rival && got < campaigns.get(i).daily
                    && (best == -1 || behind >= due(best) - putIn(best))) {
                best = i;
            }
        }
        return best;
    }

    public int ask(int listener, int item) {
        index(of(listener, 10) && of(item, items.size()));
        state(released(item) && !items.get(item).withdrawn && downloads.size() != 60);
        PlainDownload made = new PlainDownload();
        made.listener = listener;
        made.item = item;
        made.hour = hour;
        downloads.add(made);
        for (int i = 0; i < items.get(item).parts.size(); i++) {
            PlainPart part = items.get(item).parts.get(i);
            if (part.cut) {
                continue;
            }
            int campaign = part.kind == 2 ? best(part.which, listener, downloads.size() - 1) : -1;
            int length = part.seconds;
            if (campaign != -1) {
                PlainAd ad = new PlainAd();
                ad.campaign = campaign;
                ad.listener = listener;
                ad.hour = hour;
                ad.download = downloads.size() - 1;
                ads.add(ad);
                length = campaigns.get(campaign).seconds;
            }
            for (int at = 0; at < length; at++) {
                Second second = new Second();
                second.place = made.parts.size();
                second.part = i;
                second.at = at;
                second.ad = part.kind == 2;
                made.seconds.add(second);
            }
            made.parts.add(i);
            made.ads.add(campaign);
        }
        return downloads.size() - 1;
    }

    public int load(int download, int from, int to) {
        index(of(download, downloads.size()));
        argument(0 <= from && from < to && to <= downloads.get(download).seconds.size());
        state(ranges != 200);
        ranges++;
        for (int at = from; at < to; at++) {
            downloads.get(download).seconds.get(at).loaded = true;
        }
        return loadedAnew(download);
    }

    public boolean bot(int listener, boolean is) {
        index(of(listener, 10));
        return is ? !bots.add(listener) : bots.remove(listener);
    }

    public boolean tell(int item, int listener) {
        boolean was = isOwed(item, listener);
        for (PlainPart part : items.get(item).parts) {
            if (part.cut) {
                part.told.add(listener);
            }
        }
        return was;
    }

    public int hour() {
        return hour;
    }

    public int ofItem(int item, int what) {
        index(of(item, items.size()));
        argument(of(what, 8));
        PlainItem of = items.get(item);
        int seconds = of.parts.stream().filter(part -> !part.cut && part.kind != 2).mapToInt(part -> part.seconds).sum();
        int asked = (int) downloads.stream().filter(download -> download.item == item).count();
        int[] all = {of.show, of.hour, released(item) ? 1 : 0, of.withdrawn ? 1 : 0, of.parts.size(), left(item), seconds, asked};
        return all[what];
    }

    public int ofPart(int item, int part, int what) {
        index(of(item, items.size()) && of(part, items.get(item).parts.size()));
        argument(of(what, 4));
        PlainPart of = items.get(item).parts.get(part);
        int[] all = {of.kind, of.seconds, of.which, of.cut ? 1 : 0};
        return all[what];
    }

    public int told(int app, int at) {
        index(of(app, appShows.size()) && at >= 0);
        return at < appTold.get(app).size() ? appTold.get(app).get(at) : -1;
    }

    public int ofCampaign(int campaign, int what) {
        index(of(campaign, campaigns.size()));
        argument(of(what, 3));
        int heard = 0;
        for (PlainDownload download : downloads) {
            int place = download.ads.indexOf(campaign);
            boolean whole = download.seconds.stream().allMatch(second -> second.place != place || second.loaded);
            heard += place != -1 && whole && !bots.contains(download.listener) ? 1 : 0;
        }
        int[] all = {putIn(campaign), due(campaign), heard};
        return all[what];
    }

    public int ofDownload(int download, int what) {
        index(of(download, downloads.size()));
        argument(of(what, 7));
        PlainDownload of = downloads.get(download);
        int[] all = {of.listener, of.item, of.hour, of.seconds.size(), loadedAnew(download), of.parts.size(), goesOn(of)};
        return all[what];
    }

    private int goesOn(PlainDownload in) {
        int reachPart = -1;
        int reachSecond = -1;
        for (PlainDownload download : downloads) {
            if (download.listener != in.listener || download.item != in.item) {
                continue;
            }
            for (Second second : download.seconds) {
                boolean further = second.part > reachPart || second.part == reachPart && second.at > reachSecond;
                if (second.loaded && !second.ad && further) {
                    reachPart = second.part;
                    reachSecond = second.at;
                }
            }
        }
        int goesOn = 0;
        for (int at = 0; at < in.seconds.size(); at++) {
            Second second = in.seconds.get(at);
            boolean beyond = second.part > reachPart || second.part == reachPart && second.at > reachSecond;
            if (!second.ad && !beyond) {
                goesOn = at + 1;
            }
        }
        return goesOn;
    }

    public int ad(int download, int at) {
        index(of(download, downloads.size()) && of(at, downloads.get(download).parts.size()));
        return downloads.get(download).ads.get(at);
    }

    public int loadedAnew(int download) {
        index(of(download, downloads.size()));
        return (int) downloads.get(download).seconds.stream().filter(second -> second.loaded).count();
    }

    public boolean counts(int download, int rule) {
        index(of(download, downloads.size()));
        argument(rule == 0 || rule == 1);
        int loaded = loadedAnew(download);
        if (rule == 0) {
            return loaded >= 1;
        }
        PlainDownload of = downloads.get(download);
        if (bots.contains(of.listener) || loaded < 1 || loaded < 60 && loaded < of.seconds.size()) {
            return false;
        }
        for (int i = 0; i < download; i++) {
            PlainDownload lower = downloads.get(i);
            if (lower.listener == of.listener && lower.item == of.item && of.hour - lower.hour <= 23 && counts(i, 1)) {
                return false;
            }
        }
        return true;
    }

    public int count(int item, int rule) {
        index(of(item, items.size()));
        argument(rule == 0 || rule == 1);
        int count = 0;
        for (int i = 0; i < downloads.size(); i++) {
            count += downloads.get(i).item == item && counts(i, rule) ? 1 : 0;
        }
        return count;
    }

    public boolean isOwed(int item, int listener) {
        index(of(item, items.size()) && of(listener, 10));
        for (PlainDownload download : downloads) {
            for (Second second : download.seconds) {
                PlainPart part = items.get(download.item).parts.get(second.part);
                if (download.item == item && download.listener == listener && second.loaded && !second.ad && part.cut
                        && !part.told.contains(listener)) {
                    return true;
                }
            }
        }
        return false;
    }
}
