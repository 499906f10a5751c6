/** The words of promises 1 to 9 and 17 to 19, and of the terms of items. */
final class ItemEdges {
    private static final int NEW = 1, TALK = 2, MUSIC = 3, SLOT = 4, ITEM = 5, CUT = 6, WITHDRAW = 7, SONG_OUT = 8, PASS = 9;
    private static final int HOUR = 17, OF_ITEM = 18, OF_PART = 19;

    private ItemEdges() {
    }

    static void all() {
        aNewObject();
        theDraft();
        item();
        cut();
        withdraw();
        songOut();
        pass();
        ofItem();
        ofPart();
        terms();
    }

    private static void aNewObject() {
        Sentences.hold(NEW, "No ITEMS, APPS, CAMPAIGNS and DOWNLOADS", () -> {
            Edges.refuses("ofItem", Towers::empty, Suite.INDEX, (tower, of) -> tower.ofItem(of, 0), -1, 0, 1, 23, 24);
            Edges.refuses("poll", Towers::empty, Suite.INDEX, (tower, of) -> tower.poll(of), -1, 0, 1, 5, 6);
            Edges.refuses("ofCampaign", Towers::empty, Suite.INDEX, (tower, of) -> tower.ofCampaign(of, 0), -1, 0, 1, 7, 8);
            Edges.refuses("ofDownload", Towers::empty, Suite.INDEX, (tower, of) -> tower.ofDownload(of, 0), -1, 0, 1, 59, 60);
            Suite.is("how many items fit", 24, Towers.items(24).ofItem(23, 0) + 24);
        });
        Sentences.hold(NEW, "the hour 0", () -> {
            Taped tower = new Taped();
            Suite.is("the hour", 0, tower.hour());
            Edges.refuses("item of the hour ahead", () -> Towers.draft(1), Suite.ARGUMENT, (on, hour) -> on.item(0, hour), -1);
            Suite.is("an item of the hour 0 is released", 1, Towers.talks(1).ofItem(0, 2));
        });
        Sentences.hold(NEW, "no bots.", () -> {
            for (int listener = 0; listener < 10; listener++) {
                Taped tower = Towers.talks(1);
                tower.ask(listener, 0);
                tower.load(0, 0, 1);
                Suite.is("counts of " + listener, true, tower.counts(0, FeedTower.STRICT));
                Suite.is("bot of " + listener, false, tower.bot(listener, false));
            }
        });
    }

    private static void theDraft() {
        Sentences.hold(TALK, "Adds a TALK to the draft.", () -> Suite.is("the part", " 0 7 -1 0", partOf(tower -> tower.talk(7))));
        Sentences.hold(TALK, "- `seconds`: 1 to 999", () -> {
            Edges.answers("talk", Towers::empty, (tower, seconds) -> tower.talk(seconds), 1, 2, 500, 998, 999);
            Suite.is("the least", " 0 1 -1 0", partOf(tower -> tower.talk(1)));
            Suite.is("the most", " 0 999 -1 0", partOf(tower -> tower.talk(999)));
        });
        Sentences.hold(TALK, "Returns how many PARTS the draft has.", () -> countsTheDraft(tower -> tower.talk(5)));
        Sentences.hold(TALK, "Throws `IllegalArgumentException` if seconds is out of range", () ->
            Edges.range("talk", Towers::empty, 1, 999, Suite.ARGUMENT, (tower, seconds) -> tower.talk(seconds)));
        Sentences.hold(TALK, "Throws `IllegalStateException` if it has 10", () -> hasTen(tower -> tower.talk(5)));

        Sentences.hold(MUSIC, "Adds a MUSIC to the draft.", () ->
            Suite.is("the part", " 1 7 4 0", partOf(tower -> tower.music(4, 7))));
        Sentences.hold(MUSIC, "- `song`: 0 to 9", () -> {
            Edges.answers("music", Towers::empty, (tower, song) -> tower.music(song, 1), 0, 1, 5, 8, 9);
            Suite.is("the least", " 1 3 0 0", partOf(tower -> tower.music(0, 3)));
            Suite.is("the most", " 1 3 9 0", partOf(tower -> tower.music(9, 3)));
        });
        Sentences.hold(MUSIC, "- `seconds`: 1 to 300", () -> {
            Edges.answers("music", Towers::empty, (tower, seconds) -> tower.music(0, seconds), 1, 2, 150, 299, 300);
            Suite.is("the least", " 1 1 2 0", partOf(tower -> tower.music(2, 1)));
            Suite.is("the most", " 1 300 2 0", partOf(tower -> tower.music(2, 300)));
        });
        Sentences.hold(MUSIC, "Returns how many PARTS the draft has.", () -> countsTheDraft(tower -> tower.music(1, 5)));
        Sentences.hold(MUSIC, "Throws `IndexOutOfBoundsException` if there is no such song", () ->
            Edges.range("music", Towers::empty, 0, 9, Suite.INDEX, (tower, song) -> tower.music(song, 1)));
        Sentences.hold(MUSIC, "Throws `IllegalArgumentException` if seconds is out of range", () ->
            Edges.range("music", Towers::empty, 1, 300, Suite.ARGUMENT, (tower, seconds) -> tower.music(9, seconds)));
        Sentences.hold(MUSIC, "Throws `IllegalStateException` if it has 10", () -> hasTen(tower -> tower.music(1, 5)));
        Sentences.hold(MUSIC, ", or the song is out", () -> {
            for (int song = 0; song < 10; song++) {
                Taped tower = new Taped();
                Suite.is("ahead of that", 1, tower.music(song, 1));
                tower.songOut(song);
                int out = song;
                Suite.refuses(tower, "music of " + song, Suite.STATE, () -> tower.music(out, 1));
                Suite.is("the song ahead or behind it", 2, tower.music(song == 9 ? 8 : song + 1, 1));
                Suite.is("the song behind or ahead of it", 3, tower.music(song == 0 ? 1 : song - 1, 1));
            }
        });

        Sentences.hold(SLOT, "Adds a SLOT to the draft.", () -> Suite.is("the part", " 2 0 1 0", partOf(tower -> tower.slot(1))));
        Sentences.hold(SLOT, "- `place`: 0 to 2", () -> {
            Edges.answers("slot", Towers::empty, (tower, place) -> tower.slot(place), 0, 1, 2);
            Suite.is("the least", " 2 0 0 0", partOf(tower -> tower.slot(0)));
            Suite.is("the most", " 2 0 2 0", partOf(tower -> tower.slot(2)));
        });
        Sentences.hold(SLOT, "Returns how many PARTS the draft has.", () -> countsTheDraft(tower -> tower.slot(1)));
        Sentences.hold(SLOT, "Throws `IllegalArgumentException` if place is out of range", () ->
            Edges.range("slot", Towers::empty, 0, 2, Suite.ARGUMENT, (tower, place) -> tower.slot(place)));
        Sentences.hold(SLOT, "Throws `IllegalStateException` if it has 10", () -> hasTen(tower -> tower.slot(1)));
    }

    private interface Drafting {
        int on(Taped tower);
    }

    /** The one part of an item that was drafted so. */
    private static String partOf(Drafting drafting) {
        Taped tower = new Taped();
        drafting.on(tower);
        tower.item(0, 0);
        Suite.is("parts of the item", 1, tower.ofItem(0, 4));
        return Suite.part(tower, 0, 0);
    }

    private static void countsTheDraft(Drafting drafting) {
        Taped tower = new Taped();
        for (int parts = 1; parts <= 10; parts++) {
            Suite.is("the draft", parts, drafting.on(tower));
        }
        tower.item(0, 0);
        Suite.is("the next draft", 1, drafting.on(tower));
        tower.slot(0);
        tower.talk(1);
        tower.music(9, 1);
        Suite.is("parts of other kinds with them", 5, drafting.on(tower));
        tower.songOut(9);
        Suite.is("also one of a song that is out", 6, drafting.on(tower));
    }

    private static void hasTen(Drafting drafting) {
        Suite.is("it has 8", 9, drafting.on(Towers.draft(8)));
        Suite.is("it has 9", 10, drafting.on(Towers.draft(9)));
        Taped tower = Towers.draft(10);
        Suite.refuses(tower, "one more, as it has 10", Suite.STATE, () -> drafting.on(tower));
        Suite.refuses(tower, "one more anew", Suite.STATE, () -> drafting.on(tower));
        tower.item(0, 0);
        Suite.is("the item has 10", 10, tower.ofItem(0, 4));
        Suite.is("the draft has none", 1, drafting.on(tower));
    }

    private static void item() {
        Sentences.hold(ITEM, "Makes an ITEM of the draft, which has no PARTS then.", () -> {
            Taped tower = Towers.draft(10);
            tower.item(0, 0);
            Suite.is("the item has them", " 1 2 3 4 5 6 7 8 9 10", Edges.each((on, part) -> on.ofPart(0, part, 1), tower, 0, 9));
            Suite.refuses(tower, "an item of the draft that has none", Suite.STATE, () -> tower.item(0, 0));
            Suite.is("the draft", 1, tower.talk(1));
            Suite.is("the item stays", 10, tower.ofItem(0, 4));
        });
        Sentences.hold(ITEM, "A MUSIC of the draft whose song went out since is CUT in it.", () -> {
            Taped tower = new Taped();
            tower.music(2, 10);
            tower.music(3, 20);
            tower.slot(2);
            tower.music(2, 30);
            tower.talk(2);
            tower.songOut(2);
            tower.item(0, 0);
            Suite.is("which are cut", " 1 0 0 1 0", Edges.each((on, part) -> on.ofPart(0, part, 3), tower, 0, 4));
            Suite.is("the others of it", 22, tower.ofItem(0, 6));
            tower.talk(1);
            tower.item(0, 0);
            Suite.is("an item without such a one", " 0 0 1 0 1 1 1 0", Suite.item(tower, 1).substring(0, 16));
        });
        Sentences.hold(ITEM, "- `hour`: the present one to 9999, in which it is RELEASED; at once, if it is the present one", () -> {
            Suite.is("of the present hour", " 5 1", hourAndReleased(5, 5));
            Suite.is("of the hour behind it", " 6 0", hourAndReleased(5, 6));
            Suite.is("of the last but one", " 9998 0", hourAndReleased(5, 9998));
            Suite.is("of the last one", " 9999 0", hourAndReleased(5, 9999));
            Suite.is("of the last one, as it is the present one", " 9999 1", hourAndReleased(9999, 9999));
            Suite.is("of the first one", " 0 1", hourAndReleased(0, 0));
            Suite.is("of the second one", " 1 0", hourAndReleased(0, 1));
            Taped tower = Towers.at(9998);
            tower.talk(1);
            tower.item(0, 9999);
            Suite.is("ahead of it", 0, tower.ofItem(0, 2));
            tower.pass(1);
            Suite.is("in it", 1, tower.ofItem(0, 2));
        });
        Sentences.hold(ITEM, "Returns its number.", () -> {
            Taped tower = new Taped();
            for (int number = 0; number < 24; number++) {
                tower.talk(100 + number);
                Suite.is("the number", number, tower.item(number % 4, 24 - number));
                Suite.is("the item of that number", 100 + number, tower.ofItem(number, 6));
            }
        });
        Sentences.hold(ITEM, "Throws `IndexOutOfBoundsException` if there is no such show", () ->
            Edges.range("show", () -> Towers.draft(1), 0, 3, Suite.INDEX, (tower, show) -> tower.item(show, 0)));
        Sentences.hold(ITEM, "Throws `IllegalArgumentException` if hour is out of range", () -> {
            Edges.range("hour", () -> Towers.draft(1), 0, 9999, Suite.ARGUMENT, (tower, hour) -> tower.item(0, hour));
            Edges.range("hour, at 7", () -> draftAt(7), 7, 9999, Suite.ARGUMENT, (tower, hour) -> tower.item(0, hour));
            Edges.range("hour, at 9999", () -> draftAt(9999), 9999, 9999, Suite.ARGUMENT, (tower, hour) -> tower.item(0, hour));
        });
        Sentences.hold(ITEM, "Throws `IllegalStateException` if the draft has no PART that would not be CUT", ItemEdges::draftOfNoUse);
        Sentences.hold(ITEM, ", or there are 24", () -> {
            Taped tower = Towers.items(22);
            tower.talk(1);
            Suite.is("there are 22", 22, tower.item(0, 0));
            tower.talk(1);
            Suite.is("there are 23", 23, tower.item(0, 0));
            tower.talk(1);
            Suite.refuses(tower, "there are 24", Suite.STATE, () -> tower.item(0, 0));
            tower.withdraw(23);
            Suite.refuses(tower, "also if one is withdrawn", Suite.STATE, () -> tower.item(0, 0));
            Suite.is("the draft stays", 2, tower.talk(1));
        });
    }

    private static Taped draftAt(int hour) {
        Taped tower = Towers.at(hour);
        tower.talk(1);
        return tower;
    }

    private static String hourAndReleased(int present, int hour) {
        Taped tower = draftAt(present);
        tower.item(0, hour);
        return " " + tower.ofItem(0, 1) + " " + tower.ofItem(0, 2);
    }

    private static void draftOfNoUse() {
        Taped none = new Taped();
        Suite.refuses(none, "a draft without parts", Suite.STATE, () -> none.item(0, 0));
        Taped one = new Taped();
        one.music(2, 5);
        one.songOut(2);
        Suite.refuses(one, "a draft of one that would be cut", Suite.STATE, () -> one.item(0, 0));
        one.slot(0);
        Suite.is("and of one that would not", 0, one.item(0, 0));
        Taped ten = new Taped();
        for (int i = 0; i < 10; i++) {
            ten.music(i, 5);
        }
        for (int song = 0; song < 9; song++) {
            ten.songOut(song);
        }
        Suite.is("nine of ten would be cut", 0, ten.fork().item(0, 0));
        ten.songOut(9);
        Suite.refuses(ten, "ten of ten would be cut", Suite.STATE, () -> ten.item(0, 0));
        Suite.refuses(ten, "the draft stays full", Suite.STATE, () -> ten.talk(1));
    }

    private static void cut() {
        Sentences.hold(CUT, "Cuts a PART, whether the ITEM is RELEASED or not.", () -> {
            Taped tower = Towers.at(3);
            Towers.addTalks(tower, 0, 3, 10, 20);
            Towers.addTalks(tower, 0, 4, 10, 20);
            tower.cut(0, 0);
            tower.cut(1, 0);
            Suite.is("of one that is", " 0 3 1 0 2 1 20 0", Suite.item(tower, 0).substring(0, 17));
            Suite.is("of one that is not", " 0 4 0 0 2 1 20 0", Suite.item(tower, 1).substring(0, 17));
            tower.pass(1);
            Suite.is("it stays cut as it is released", " 0 4 1 0 2 1 20 0", Suite.item(tower, 1).substring(0, 17));
        });
        Sentences.hold(CUT, "- `part`: its number", () -> {
            Taped tower = itemOfTen();
            for (int part : new int[] {0, 9, 1, 8, 5}) {
                tower.cut(0, part);
                Suite.is("part " + part + " is cut", 1, tower.ofPart(0, part, 3));
            }
            Suite.is("which are", " 1 1 0 0 0 1 0 0 1 1", Edges.each((on, part) -> on.ofPart(0, part, 3), tower, 0, 9));
        });
        Sentences.hold(CUT, "Returns how many PARTS of the ITEM are not CUT then.", () -> {
            Taped tower = itemOfTen();
            for (int part = 9; part >= 1; part--) {
                Suite.is("as " + part + " goes", part, tower.cut(0, part));
                Suite.is("they are as many", part, tower.ofItem(0, 5));
            }
        });
        Sentences.hold(CUT, "Throws `IndexOutOfBoundsException` if there is no such ITEM", () -> {
            Edges.range("item", () -> Towers.items(2), 0, 1, Suite.INDEX, (tower, item) -> tower.cut(item, 0));
            Edges.range("item", () -> Towers.items(24), 0, 23, Suite.INDEX, (tower, item) -> tower.cut(item, 0));
            Edges.refuses("item", Towers::empty, Suite.INDEX, (tower, item) -> tower.cut(item, 0), -1, 0, 1);
        });
        Sentences.hold(CUT, ", or PART of it", () -> {
            Edges.range("part", () -> Towers.items(2), 0, 1, Suite.INDEX, (tower, part) -> tower.cut(1, part));
            Edges.range("part", ItemEdges::itemOfTen, 0, 9, Suite.INDEX, (tower, part) -> tower.cut(0, part));
            Edges.refuses("part of a shorter one", ItemEdges::shorterBehindLonger, Suite.INDEX,
                    (tower, part) -> tower.cut(1, part), 1, 2);
        });
        Sentences.hold(CUT, "Throws `IllegalStateException` if it is CUT", () -> {
            Taped tower = itemOfTen();
            tower.cut(0, 4);
            Edges.refuses("cut anew", () -> tower, Suite.STATE, (on, part) -> on.cut(0, part), 4);
            Edges.answers("cut beside it", tower::fork, (on, part) -> on.cut(0, part), 3, 5);
            Taped song = Towers.items(1);
            song.talk(1);
            song.item(0, 0);
            song.songOut(1);
            Suite.refuses(song, "cut of what a song has cut", Suite.STATE, () -> song.cut(0, 1));
        });
        Sentences.hold(CUT, ", the ITEM is WITHDRAWN", () -> {
            Taped tower = Towers.items(2);
            tower.withdraw(0);
            Edges.refuses("cut of it", () -> tower, Suite.STATE, (on, part) -> on.cut(0, part), 0, 1);
            Suite.is("cut of another one", 1, tower.cut(1, 0));
            Taped later = new Taped();
            Towers.addTalks(later, 0, 5, 10, 20);
            later.withdraw(0);
            Suite.refuses(later, "cut of one that is not released", Suite.STATE, () -> later.cut(0, 0));
        });
        Sentences.hold(CUT, ", or it is the only one that is not CUT", () -> {
            Taped tower = Towers.talks(10, 20, 30);
            Suite.is("one of three", 2, tower.cut(0, 2));
            Suite.is("one of two", 1, tower.cut(0, 0));
            Suite.refuses(tower, "one of one", Suite.STATE, () -> tower.cut(0, 1));
            Taped one = Towers.slots(1);
            Suite.refuses(one, "an item's one part", Suite.STATE, () -> one.cut(0, 0));
        });
    }

    private static Taped itemOfTen() {
        Taped tower = Towers.draft(10);
        tower.item(0, 0);
        return tower;
    }

    private static Taped shorterBehindLonger() {
        Taped tower = Towers.talks(1, 2, 3);
        Towers.addTalks(tower, 0, 0, 4);
        Towers.addTalks(tower, 0, 0, 5, 6, 7);
        return tower;
    }

    private static void withdraw() {
        Sentences.hold(WITHDRAW, "Withdraws an ITEM, whether it is RELEASED or not.", () -> {
            Taped tower = Towers.at(3);
            Towers.addTalks(tower, 0, 3, 10);
            Towers.addTalks(tower, 0, 4, 10);
            Towers.addTalks(tower, 0, 9999, 10);
            Suite.is("ahead of that", " 0 0 0", Edges.each((on, item) -> on.ofItem(item, 3), tower, 0, 2));
            tower.withdraw(0);
            Suite.is("one that is released", " 1 0 0", Edges.each((on, item) -> on.ofItem(item, 3), tower, 0, 2));
            tower.withdraw(2);
            tower.withdraw(1);
            Suite.is("those that are not", " 1 1 1", Edges.each((on, item) -> on.ofItem(item, 3), tower, 0, 2));
            Suite.is("their parts are not cut", " 1 1 1", Edges.each((on, item) -> on.ofItem(item, 5), tower, 0, 2));
        });
        Sentences.hold(WITHDRAW, "Throws `IndexOutOfBoundsException` if there is no such ITEM", () -> {
            Edges.range("item", () -> Towers.items(2), 0, 1, Suite.INDEX, ItemEdges::withdraw);
            Edges.range("item", () -> Towers.items(24), 0, 23, Suite.INDEX, ItemEdges::withdraw);
            Edges.refuses("item", Towers::empty, Suite.INDEX, ItemEdges::withdraw, -1, 0, 1);
        });
        Sentences.hold(WITHDRAW, "Throws `IllegalStateException` if it is WITHDRAWN", () -> {
            Taped tower = Towers.items(3);
            tower.withdraw(1);
            Edges.refuses("withdraw anew", () -> tower, Suite.STATE, ItemEdges::withdraw, 1);
            Edges.answers("withdraw of others", tower::fork, ItemEdges::withdraw, 0, 2);
            Taped song = new Taped();
            song.music(1, 2);
            song.item(0, 0);
            song.songOut(1);
            Suite.refuses(song, "withdraw of one that a song has withdrawn", Suite.STATE, () -> withdraw(song, 0));
        });
    }

    private static int withdraw(Taped tower, int item) {
        tower.withdraw(item);
        return 0;
    }

    private static void songOut() {
        Sentences.hold(SONG_OUT, "Lets a song go out.", () -> {
            for (int song = 0; song < 10; song++) {
                Taped tower = new Taped();
                tower.songOut(song);
                int out = song;
                Suite.refuses(tower, "a music of it", Suite.STATE, () -> tower.music(out, 1));
                Edges.answers("a music of another one", tower::fork, (on, other) -> other == out ? 0 : on.music(other, 1),
                        0, 1, 2, 3, 4, 5, 6, 7, 8, 9);
            }
        });
        Sentences.hold(SONG_OUT, "Returns how many PARTS of ITEMS are CUT by that.", () -> {
            Suite.is("no items", 0, new Taped().songOut(1));
            Suite.is("items without the song", 0, Towers.items(2).songOut(0));
            Suite.is("one", 1, Towers.items(1).songOut(1));
            Suite.is("one in each of 24", 24, Towers.items(24).songOut(1));
            Taped most = new Taped();
            for (int i = 0; i < 24; i++) {
                for (int part = 0; part < 10; part++) {
                    most.music(7, 1);
                }
                most.item(i % 4, i % 2);
            }
            Suite.is("ten in each of 24", 240, most.songOut(7));
            Suite.is("all 24 are withdrawn", 24, sumOf(most, 3));
            Taped cut = Towers.items(2);
            cut.cut(0, 1);
            cut.music(1, 5);
            Suite.is("not those that are cut, nor those of the draft", 1, cut.songOut(1));
        });
        Sentences.hold(SONG_OUT, "Throws `IndexOutOfBoundsException` if there is no such song", () ->
            Edges.range("song", () -> Towers.items(1), 0, 9, Suite.INDEX, (tower, song) -> tower.songOut(song)));
        Sentences.hold(SONG_OUT, "Throws `IllegalStateException` if it is out", () -> {
            Taped tower = Towers.items(1);
            tower.songOut(0);
            tower.songOut(4);
            tower.songOut(9);
            Edges.refuses("songOut", () -> tower, Suite.STATE, (on, song) -> on.songOut(song), 0, 4, 9);
            Edges.answers("songOut", tower::fork, (on, song) -> on.songOut(song), 1, 2, 3, 5, 6, 7, 8);
        });
    }

    private static int sumOf(Taped tower, int what) {
        int sum = 0;
        for (int item = 0; item < 24; item++) {
            sum += tower.ofItem(item, what);
        }
        return sum;
    }

    private static void pass() {
        Sentences.hold(PASS, "Lets hours pass.", () -> {
            Taped tower = Towers.talks(1);
            Towers.addTalks(tower, 0, 2, 1);
            tower.pass(1);
            Suite.is("one ahead", " 1 0", Edges.each((on, item) -> on.ofItem(item, 2), tower, 0, 1));
            tower.pass(1);
            Suite.is("in the hour", " 1 1", Edges.each((on, item) -> on.ofItem(item, 2), tower, 0, 1));
        });
        Sentences.hold(PASS, "- `hours`: 1 to 999", () ->
            Edges.answers("pass", Towers::empty, (tower, hours) -> tower.pass(hours), 1, 2, 500, 998, 999));
        Sentences.hold(PASS, "Returns the hour then.", () -> {
            Suite.is("the first", 1, new Taped().pass(1));
            Suite.is("the most at once", 999, new Taped().pass(999));
            Taped tower = Towers.at(24);
            Suite.is("from 24", 26, tower.pass(2));
            Suite.is("the hour", 26, tower.hour());
            Suite.is("the last", 9999, Towers.at(9998).pass(1));
        });
        Sentences.hold(PASS, "Throws `IllegalArgumentException` if hours is out of range", () -> {
            Edges.range("pass", Towers::empty, 1, 999, Suite.ARGUMENT, (tower, hours) -> tower.pass(hours));
            Edges.refuses("pass at the end", () -> Towers.at(9999), Suite.ARGUMENT, (tower, hours) -> tower.pass(hours),
                    Edges.beside(1, 999));
        });
        Sentences.hold(PASS, "Throws `IllegalStateException` if it would be above 9999", () -> {
            Edges.answers("pass from 9000", () -> Towers.at(9000), (tower, hours) -> tower.pass(hours), 998, 999);
            Edges.answers("pass from 9001", () -> Towers.at(9001), (tower, hours) -> tower.pass(hours), 997, 998);
            Edges.refuses("pass from 9001", () -> Towers.at(9001), Suite.STATE, (tower, hours) -> tower.pass(hours), 999);
            Edges.answers("pass from 9998", () -> Towers.at(9998), (tower, hours) -> tower.pass(hours), 1);
            Edges.refuses("pass from 9998", () -> Towers.at(9998), Suite.STATE, (tower, hours) -> tower.pass(hours), 2, 3, 999);
            Edges.refuses("pass from 9999", () -> Towers.at(9999), Suite.STATE, (tower, hours) -> tower.pass(hours), 1, 2, 999);
        });
        Sentences.hold(HOUR, "Returns the hour.", () -> {
            for (int hour : new int[] {0, 1, 23, 24, 999, 1000, 9998, 9999}) {
                Suite.is("the hour", hour, Towers.at(hour).hour());
            }
        });
    }

    private static void ofItem() {
        Sentences.hold(OF_ITEM, "Tells of an ITEM: 0 its show, 1 its hour, 2 whether it is RELEASED", () -> {
            for (int show = 0; show < 4; show++) {
                Taped tower = Towers.at(7);
                Towers.addTalks(tower, show, 7, 1);
                Towers.addTalks(tower, 3 - show, 8, 1);
                Suite.is("of one that is", " " + show + " 7 1", Edges.each((on, what) -> on.ofItem(0, what), tower, 0, 2));
                Suite.is("of one that is not", " " + (3 - show) + " 8 0", Edges.each((on, what) -> on.ofItem(1, what), tower, 0, 2));
                tower.pass(1);
                Suite.is("of one that is now", " " + (3 - show) + " 8 1", Edges.each((on, what) -> on.ofItem(1, what), tower, 0, 2));
            }
        });
        Sentences.hold(OF_ITEM, ", 3 whether it is WITHDRAWN (1 or 0)", () -> {
            Taped tower = Towers.items(2);
            Suite.is("ahead of that", 0, tower.ofItem(1, 3));
            tower.withdraw(1);
            Suite.is("behind that", 1, tower.ofItem(1, 3));
            Suite.is("of another one", 0, tower.ofItem(0, 3));
        });
        Sentences.hold(OF_ITEM, ", 4 how many PARTS it has, those that are CUT with them, 5 how many are not CUT", () -> {
            Taped tower = itemOfTen();
            Suite.is("ten", " 10 10", Edges.each((on, what) -> on.ofItem(0, what), tower, 4, 5));
            tower.cut(0, 0);
            Suite.is("one is cut", " 10 9", Edges.each((on, what) -> on.ofItem(0, what), tower, 4, 5));
            for (int part = 1; part < 9; part++) {
                tower.cut(0, part);
            }
            Suite.is("all but one are", " 10 1", Edges.each((on, what) -> on.ofItem(0, what), tower, 4, 5));
            Taped song = new Taped();
            song.music(1, 2);
            song.item(0, 0);
            song.songOut(1);
            Suite.is("all are", " 1 0", Edges.each((on, what) -> on.ofItem(0, what), song, 4, 5));
        });
        Sentences.hold(OF_ITEM, ", 6 the seconds of its TALK and MUSIC that are not CUT", () -> {
            Taped tower = new Taped();
            tower.talk(999);
            tower.slot(0);
            tower.music(1, 300);
            tower.item(0, 0);
            tower.campaign(0, 0, 60, 0, 9, 9, 3);
            tower.ask(0, 0);
            Suite.is("both, and no ad", 1299, tower.ofItem(0, 6));
            tower.cut(0, 0);
            Suite.is("the music", 300, tower.ofItem(0, 6));
            tower.songOut(1);
            Suite.is("neither", 0, tower.ofItem(0, 6));
            Taped most = new Taped();
            for (int i = 0; i < 10; i++) {
                most.talk(999);
            }
            most.item(0, 0);
            Suite.is("the most", 9990, most.ofItem(0, 6));
        });
        Sentences.hold(OF_ITEM, ", 7 how many DOWNLOADS there are of it.", () -> {
            Taped tower = Towers.items(2);
            Suite.is("none", 0, tower.ofItem(0, 7));
            tower.ask(0, 0);
            Suite.is("one", 1, tower.ofItem(0, 7));
            Suite.is("none of the other one", 0, tower.ofItem(1, 7));
            for (int i = 1; i < 60; i++) {
                tower.ask(i % 10, 0);
            }
            Suite.is("sixty", 60, tower.ofItem(0, 7));
        });
        Sentences.hold(OF_ITEM, "- `what`: 0 to 7", () ->
            Edges.answers("what", Towers::full, (tower, what) -> tower.ofItem(0, what), 0, 1, 2, 3, 4, 5, 6, 7));
        Sentences.hold(OF_ITEM, "Throws `IndexOutOfBoundsException` if there is no such ITEM", () -> {
            Edges.range("item", () -> Towers.items(2), 0, 1, Suite.INDEX, (tower, item) -> tower.ofItem(item, 0));
            Edges.range("item", () -> Towers.items(24), 0, 23, Suite.INDEX, (tower, item) -> tower.ofItem(item, 7));
            Edges.refuses("item", Towers::empty, Suite.INDEX, (tower, item) -> tower.ofItem(item, 0), -1, 0, 1);
        });
        Sentences.hold(OF_ITEM, "Throws `IllegalArgumentException` if what is out of range", () ->
            Edges.range("what", Towers::full, 0, 7, Suite.ARGUMENT, (tower, what) -> tower.ofItem(0, what)));
    }

    private static void ofPart() {
        Sentences.hold(OF_PART, "Tells of a PART: 0 TALK to SLOT, 1 its seconds, 0 for a SLOT,"
                + " 2 its song, or its place, NONE for a TALK", () -> {
            Taped tower = new Taped();
            tower.talk(1);
            tower.talk(999);
            tower.music(0, 1);
            tower.music(9, 300);
            tower.slot(0);
            tower.slot(2);
            tower.item(0, 0);
            Suite.is("the kinds", " 0 0 1 1 2 2", Edges.each((on, part) -> on.ofPart(0, part, 0), tower, 0, 5));
            Suite.is("the seconds", " 1 999 1 300 0 0", Edges.each((on, part) -> on.ofPart(0, part, 1), tower, 0, 5));
            Suite.is("the songs and places", " -1 -1 0 9 0 2", Edges.each((on, part) -> on.ofPart(0, part, 2), tower, 0, 5));
            tower.campaign(0, 0, 60, 0, 9, 9, 3);
            tower.ask(0, 0);
            Suite.is("an ad that is put in is none of the item's", " 2 0 0 0", Suite.part(tower, 0, 4));
        });
        Sentences.hold(OF_PART, ", 3 whether it is CUT (1 or 0).", () -> {
            Taped tower = Towers.items(2);
            tower.cut(0, 0);
            Suite.is("which are", " 1 0", Edges.each((on, part) -> on.ofPart(0, part, 3), tower, 0, 1));
            Suite.is("of another one", " 0 0", Edges.each((on, part) -> on.ofPart(1, part, 3), tower, 0, 1));
            tower.songOut(1);
            Suite.is("by a song", " 1 1", Edges.each((on, part) -> on.ofPart(0, part, 3), tower, 0, 1));
            Suite.is("of another one", " 0 1", Edges.each((on, part) -> on.ofPart(1, part, 3), tower, 0, 1));
        });
        Sentences.hold(OF_PART, "- `what`: 0 to 3", () ->
            Edges.answers("what", Towers::full, (tower, what) -> tower.ofPart(1, 1, what), 0, 1, 2, 3));
        Sentences.hold(OF_PART, "Throws `IndexOutOfBoundsException` if there is no such ITEM", () -> {
            Edges.range("item", () -> Towers.items(2), 0, 1, Suite.INDEX, (tower, item) -> tower.ofPart(item, 0, 0));
            Edges.range("item", () -> Towers.items(24), 0, 23, Suite.INDEX, (tower, item) -> tower.ofPart(item, 0, 0));
            Edges.refuses("item", Towers::empty, Suite.INDEX, (tower, item) -> tower.ofPart(item, 0, 0), -1, 0, 1);
        });
        Sentences.hold(OF_PART, ", or PART of it", () -> {
            Edges.range("part", () -> Towers.items(2), 0, 1, Suite.INDEX, (tower, part) -> tower.ofPart(1, part, 0));
            Edges.range("part", ItemEdges::itemOfTen, 0, 9, Suite.INDEX, (tower, part) -> tower.ofPart(0, part, 0));
            Edges.refuses("part of a shorter one", ItemEdges::shorterBehindLonger, Suite.INDEX,
                    (tower, part) -> tower.ofPart(1, part, 0), 1, 2);
        });
        Sentences.hold(OF_PART, "Throws `IllegalArgumentException` if what is out of range", () ->
            Edges.range("what", Towers::full, 0, 3, Suite.ARGUMENT, (tower, what) -> tower.ofPart(0, 2, what)));
    }

    private static void terms() {
        Sentences.hold(Sentences.TERMS, "An item's number is for good", () -> {
            Taped tower = new Taped();
            for (int i = 0; i < 4; i++) {
                Towers.addTalks(tower, i, 9 - i, 11 + i, 5);
            }
            tower.withdraw(0);
            tower.cut(2, 0);
            tower.cut(3, 1);
            tower.pass(9);
            Suite.is("their shows", " 0 1 2 3", Edges.each((on, item) -> on.ofItem(item, 0), tower, 0, 3));
            Suite.is("their hours", " 9 8 7 6", Edges.each((on, item) -> on.ofItem(item, 1), tower, 0, 3));
            Suite.is("their first parts", " 11 12 13 14", Edges.each((on, item) -> on.ofPart(item, 0, 1), tower, 0, 3));
        });
        Sentences.hold(Sentences.TERMS, "Hours are counted from 0, at most 9999", () -> {
            Suite.is("the first", 0, new Taped().hour());
            Taped tower = Towers.at(9999);
            Suite.is("the last", 9999, tower.hour());
            Suite.refuses(tower, "one behind it", Suite.STATE, () -> tower.pass(1));
            Edges.range("an item's", () -> Towers.draft(1), 0, 9999, Suite.ARGUMENT, (on, hour) -> on.item(0, hour));
        });
        Sentences.hold(Sentences.TERMS, "There are the shows 0 to 3.", () -> {
            Edges.range("item", () -> Towers.draft(1), 0, 3, Suite.INDEX, (tower, show) -> tower.item(show, 0));
            Edges.range("app", Towers::empty, 0, 3, Suite.INDEX, (tower, show) -> tower.app(show));
        });
        Sentences.hold(Sentences.TERMS, "An ITEM is of a show, and has PARTS, one behind the other, numbered from 0 as they were drafted,"
                + " in the one draft that there is for all shows", () -> {
            Taped tower = new Taped();
            tower.talk(31);
            tower.music(5, 32);
            tower.slot(1);
            tower.talk(33);
            Suite.refuses(tower, "part of a draft", Suite.INDEX, () -> tower.ofPart(0, 0, 0));
            tower.item(2, 0);
            Suite.is("the show", 2, tower.ofItem(0, 0));
            Suite.is("the parts", " 31 32 0 33", Edges.each((on, part) -> on.ofPart(0, part, 1), tower, 0, 3));
            Suite.refuses(tower, "the draft of another show", Suite.STATE, () -> tower.item(1, 0));
            tower.ask(0, 0);
            tower.load(0, 62, 63);
            Suite.is("one behind the other", 63, tower.ofDownload(0, 6));
        });
        Sentences.hold(Sentences.TERMS, "a PART is a TALK of 1 to 999 seconds", () ->
            Edges.range("talk", Towers::empty, 1, 999, Suite.ARGUMENT, (tower, seconds) -> tower.talk(seconds)));
        Sentences.hold(Sentences.TERMS, "a MUSIC of a song, 0 to 9, of 1 to 300 seconds", () -> {
            Edges.range("song", Towers::empty, 0, 9, Suite.INDEX, (tower, song) -> tower.music(song, 300));
            Edges.range("seconds", Towers::empty, 1, 300, Suite.ARGUMENT, (tower, seconds) -> tower.music(0, seconds));
        });
        Sentences.hold(Sentences.TERMS, "or a SLOT of a place, 0 to 2.", () ->
            Edges.range("place", () -> Towers.draft(9), 0, 2, Suite.ARGUMENT, (tower, place) -> tower.slot(place)));
        Sentences.hold(Sentences.TERMS, "ITEMS are numbered from 0, at most 24.", () -> {
            Taped tower = new Taped();
            for (int i = 0; i < 24; i++) {
                Suite.is("the number", i, Towers.addTalks(tower, 0, i, 1));
            }
            tower.talk(1);
            Suite.refuses(tower, "a 25th", Suite.STATE, () -> tower.item(0, 0));
            Edges.range("ofItem", () -> Towers.items(24), 0, 23, Suite.INDEX, (on, item) -> on.ofItem(item, 0));
        });
        Sentences.hold(Sentences.TERMS, "An ITEM is RELEASED, as its hour comes, also one that is WITHDRAWN", () -> {
            Taped tower = new Taped();
            Towers.addTalks(tower, 0, 4, 1);
            Towers.addTalks(tower, 0, 4, 1);
            tower.withdraw(1);
            int[] released = {0, 0, 0, 0, 2, 2};
            for (int hour = 0; hour < released.length; hour++) {
                Suite.is("in the hour " + hour, released[hour], tower.ofItem(0, 2) + tower.ofItem(1, 2));
                tower.pass(1);
            }
            Taped over = new Taped();
            Towers.addTalks(over, 0, 998, 1);
            Towers.addTalks(over, 0, 999, 1);
            Towers.addTalks(over, 0, 1000, 1);
            over.pass(999);
            Suite.is("as many hours pass at once", " 1 1 0", Edges.each((on, item) -> on.ofItem(item, 2), over, 0, 2));
        });
        Sentences.hold(Sentences.TERMS, "and it can be WITHDRAWN for good.", () -> {
            Taped tower = new Taped();
            Towers.addTalks(tower, 0, 2, 1);
            tower.withdraw(0);
            tower.pass(2);
            Suite.is("as it is released", 1, tower.ofItem(0, 3));
            Suite.refuses(tower, "asked for", Suite.STATE, () -> tower.ask(0, 0));
            Towers.passTo(tower, 9999);
            Suite.is("in the last hour", 1, tower.ofItem(0, 3));
            Suite.refuses(tower, "withdrawn anew", Suite.STATE, () -> withdraw(tower, 0));
        });
        Sentences.hold(Sentences.TERMS, "A PART can be CUT from an ITEM, for good; the others keep their numbers.", () -> {
            Taped tower = new Taped();
            Towers.addTalks(tower, 0, 2, 11, 12, 13, 14);
            tower.cut(0, 1);
            tower.cut(0, 0);
            Suite.is("their seconds", " 11 12 13 14", Edges.each((on, part) -> on.ofPart(0, part, 1), tower, 0, 3));
            tower.pass(2);
            tower.tell(0, 0);
            tower.withdraw(0);
            Towers.passTo(tower, 9999);
            Suite.is("which are cut", " 1 1 0 0", Edges.each((on, part) -> on.ofPart(0, part, 3), tower, 0, 3));
            Suite.is("there are four all the same", 4, tower.ofItem(0, 4));
        });
        Sentences.hold(Sentences.TERMS, "A song can go out, for good", () -> {
            Taped tower = new Taped();
            tower.songOut(6);
            Towers.passTo(tower, 9999);
            Suite.refuses(tower, "a music of it", Suite.STATE, () -> tower.music(6, 1));
            Suite.refuses(tower, "it goes out anew", Suite.STATE, () -> tower.songOut(6));
        });
        Sentences.hold(Sentences.TERMS, "each MUSIC of it that is in an ITEM, also in one that is not RELEASED, or WITHDRAWN,"
                + " and not CUT, is CUT.", ItemEdges::eachMusicOfIt);
        Sentences.hold(Sentences.TERMS, "An ITEM all of whose PARTS are CUT is WITHDRAWN by that.", () -> {
            Taped tower = new Taped();
            tower.music(1, 5);
            tower.music(2, 5);
            tower.item(0, 0);
            tower.music(1, 5);
            tower.slot(0);
            tower.item(0, 5);
            tower.music(2, 5);
            tower.item(0, 5);
            tower.songOut(1);
            Suite.is("one is left of each", " 0 0 0", Edges.each((on, item) -> on.ofItem(item, 3), tower, 0, 2));
            tower.songOut(2);
            Suite.is("none is left, a slot is", " 1 0 1", Edges.each((on, item) -> on.ofItem(item, 3), tower, 0, 2));
            tower.pass(5);
            Suite.is("for good", " 1 0 1", Edges.each((on, item) -> on.ofItem(item, 3), tower, 0, 2));
        });
    }

    private static void eachMusicOfIt() {
        Taped tower = new Taped();
        for (int i = 0; i < 4; i++) {
            tower.music(4, 1);
            tower.talk(2);
            tower.music(5, 3);
            tower.music(4, 4);
            tower.slot(2);
            tower.item(i, i == 1 ? 3 : 0);
        }
        tower.withdraw(2);
        tower.cut(3, 0);
        Suite.is("how many are cut", 7, tower.songOut(4));
        for (int item = 0; item < 4; item++) {
            int at = item;
            Suite.is("which are cut of " + item, " 1 0 0 1 0", Edges.each((on, part) -> on.ofPart(at, part, 3), tower, 0, 4));
        }
        Suite.is("which are withdrawn", " 0 0 1 0", Edges.each((on, item) -> on.ofItem(item, 3), tower, 0, 3));
    }
}
