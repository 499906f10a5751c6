/** Towers that the edges are looked at with. */
final class Towers {
    private Towers() {
    }

    static Taped empty() {
        return new Taped();
    }

    /** A tower whose draft has this many talks. */
    static Taped draft(int parts) {
        Taped tower = new Taped();
        for (int i = 0; i < parts; i++) {
            tower.talk(i + 1);
        }
        return tower;
    }

    /** A tower at this hour. */
    static Taped at(int hour) {
        Taped tower = new Taped();
        passTo(tower, hour);
        return tower;
    }

    static void passTo(Taped tower, int hour) {
        while (tower.hour() < hour) {
            tower.pass(Math.min(999, hour - tower.hour()));
        }
    }

    /** A tower with one item of show 0, released in the hour 0, of talks alone. */
    static Taped talks(int... seconds) {
        Taped tower = new Taped();
        addTalks(tower, 0, 0, seconds);
        return tower;
    }

    static int addTalks(Taped tower, int show, int hour, int... seconds) {
        for (int one : seconds) {
            tower.talk(one);
        }
        return tower.item(show, hour);
    }

    /** A tower with one item of show 0, released in the hour 0, of slots alone. */
    static Taped slots(int... places) {
        Taped tower = new Taped();
        addSlots(tower, 0, places);
        return tower;
    }

    static int addSlots(Taped tower, int hour, int... places) {
        for (int place : places) {
            tower.slot(place);
        }
        return tower.item(0, hour);
    }

    /** A tower with this many items, released in the hour 0, each of a talk and a music of song 1. */
    static Taped items(int many) {
        Taped tower = new Taped();
        for (int i = 0; i < many; i++) {
            tower.talk(2);
            tower.music(1, 3);
            tower.item(0, 0);
        }
        return tower;
    }

    /** A tower with something of everything: two items, an app that has polled, a campaign, a download with a range. */
    static Taped full() {
        Taped tower = new Taped();
        tower.talk(70);
        tower.slot(0);
        tower.music(3, 20);
        tower.item(0, 0);
        tower.talk(5);
        tower.music(4, 6);
        tower.item(0, 9);
        tower.app(0);
        tower.campaign(0, 0, 10, 0, 10, 90, 2);
        tower.ask(0, 0);
        tower.load(0, 0, 71);
        tower.cut(0, 0);
        tower.songOut(9);
        tower.slot(1);
        tower.bot(8, true);
        tower.poll(0);
        return tower;
    }

    /** A tower as the full one, in which nothing more has room: parts, items, apps, campaigns, downloads, ranges. */
    static Taped brimful() {
        Taped tower = full();
        for (int i = 2; i < 24; i++) {
            addTalks(tower, i % 4, 0, 3);
        }
        for (int i = 0; i < 10; i++) {
            tower.slot(i % 3);
        }
        for (int i = 1; i < 6; i++) {
            tower.app(i % 4);
        }
        for (int i = 1; i < 8; i++) {
            tower.campaign(i % 3, i % 5, 5, 0, 9, 9, 1);
        }
        for (int i = 1; i < 60; i++) {
            tower.ask(i % 10, i % 2 * 2);
        }
        for (int i = 1; i < 200; i++) {
            tower.load(i % 2, 0, 1);
        }
        tower.poll(0);
        return tower;
    }
}
