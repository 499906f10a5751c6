import java.util.ArrayList;
import java.util.List;
import java.util.function.ToIntFunction;

/**
 * A tower whose changes are taped. The document promises 512 calls of one object: ahead of the next one
 * the tower is made anew from the tape, so that the tests can look at it as often as they like.
 */
final class Taped {
    private static final int MOST_CALLS = 512;

    private final List<ToIntFunction<FeedTower>> tape = new ArrayList<>();
    private FeedTower tower = new FeedTower();
    private int calls = 0;

    /** Another tower, of which the same was asked. */
    Taped fork() {
        Taped other = new Taped();
        other.tape.addAll(tape);
        other.playTape();
        return other;
    }

    private int change(ToIntFunction<FeedTower> call) {
        makeRoom();
        tape.add(call);
        calls++;
        return call.applyAsInt(tower);
    }

    private int look(ToIntFunction<FeedTower> call) {
        makeRoom();
        calls++;
        return call.applyAsInt(tower);
    }

    private void makeRoom() {
        if (calls < MOST_CALLS) {
            return;
        }
        if (tape.size() >= MOST_CALLS) {
            throw new AssertionError("a test changes one tower more than " + MOST_CALLS + " times");
        }
        tower = new FeedTower();
        playTape();
    }

    private void playTape() {
        calls = tape.size();
        for (ToIntFunction<FeedTower> call : tape) {
            try {
                call.applyAsInt(tower);
            } catch (RuntimeException refusedAsBefore) {
                continue;
            }
        }
    }

    private static int bit(boolean is) {
        return is ? 1 : 0;
    }

    public int talk(int seconds) {
        return change(on -> on.talk(seconds));
    }

    public int music(int song, int seconds) {
        return change(on -> on.music(song, seconds));
    }

    public int slot(int place) {
        return change(on -> on.slot(place));
    }

    public int item(int show, int hour) {
        return change(on -> on.item(show, hour));
    }

    public int cut(int item, int part) {
        return change(on -> on.cut(item, part));
    }

    public void withdraw(int item) {
        change(on -> {
            on.withdraw(item);
            return 0;
        });
    }

    public int songOut(int song) {
        return change(on -> on.songOut(song));
    }

    public int pass(int hours) {
        return change(on -> on.pass(hours));
    }

    public int app(int show) {
        return change(on -> on.app(show));
    }

    public int poll(int app) {
        return change(on -> on.poll(app));
    }

    public int campaign(int place, int group, int seconds, int from, int to, int many, int daily) {
        return change(on -> on.campaign(place, group, seconds, from, to, many, daily));
    }

    public int ask(int listener, int item) {
        return change(on -> on.ask(listener, item));
    }

    public int load(int download, int from, int to) {
        return change(on -> on.load(download, from, to));
    }

    public boolean bot(int listener, boolean is) {
        return change(on -> bit(on.bot(listener, is))) == 1;
    }

    public boolean tell(int item, int listener) {
        return change(on -> bit(on.tell(item, listener))) == 1;
    }

    public int hour() {
        return look(on -> on.hour());
    }

    public int ofItem(int item, int what) {
        return look(on -> on.ofItem(item, what));
    }

    public int ofPart(int item, int part, int what) {
        return look(on -> on.ofPart(item, part, what));
    }

    public int told(int app, int at) {
        return look(on -> on.told(app, at));
    }

    public int ofCampaign(int campaign, int what) {
        return look(on -> on.ofCampaign(campaign, what));
    }

    public int ofDownload(int download, int what) {
        return look(on -> on.ofDownload(download, what));
    }

    public int ad(int download, int at) {
        return look(on -> on.ad(download, at));
    }

    public int loadedAnew(int download) {
        return look(on -> on.loadedAnew(download));
    }

    public boolean counts(int download, int rule) {
        return look(on -> bit(on.counts(download, rule))) == 1;
    }

    public int count(int item, int rule) {
        return look(on -> on.count(item, rule));
    }

    public boolean isOwed(int item, int listener) {
        return look(on -> bit(on.isOwed(item, listener))) == 1;
    }
}
