/** Promises 1 to 9 and 17 to 19: a new tower, the draft, items, cuts, songs that go out, hours. */
public final class ItemsTest {
    public static void main(String[] args) {
        aNewTower();
        talk();
        music();
        slot();
        item();
        itemCutsWhatWentOut();
        itemOfADraftThatIsAllOut();
        twentyFourItems();
        cut();
        cutRefuses();
        withdraw();
        songOut();
        songOutWithdraws();
        pass();
        hourIsReleased();
        ofItem();
        ofPart();
        Suite.end("ItemsTest");
    }

    private static void aNewTower() {
        Taped tower = new Taped();
        Suite.is("the hour of a new tower", 0, tower.hour());
        Suite.is("a new tower", "hour 0", Suite.look(tower));
        for (int listener = 0; listener < 10; listener++) {
            Suite.is("bot of a new tower", false, tower.bot(listener, false));
        }
        Taped other = new Taped();
        other.pass(5);
        other.talk(1);
        other.item(0, 5);
        Suite.is("a tower beside another one", "hour 0", Suite.look(tower));
    }

    private static void talk() {
        Taped tower = new Taped();
        Suite.refuses(tower, "talk(0)", Suite.ARGUMENT, () -> tower.talk(0));
        Suite.refuses(tower, "talk(1000)", Suite.ARGUMENT, () -> tower.talk(1000));
        for (int far : Suite.FAR_OUT) {
            Suite.refuses(tower, "talk(" + far + ")", Suite.ARGUMENT, () -> tower.talk(far));
        }
        Suite.is("talk(1)", 1, tower.talk(1));
        for (int i = 2; i <= 10; i++) {
            Suite.is("talk(999)", i, tower.talk(999));
        }
        Suite.refuses(tower, "an eleventh talk", Suite.STATE, () -> tower.talk(1));
        Suite.refuses(tower, "an eleventh talk of 0", Suite.ARGUMENT, () -> tower.talk(0));
        tower.item(0, 0);
        Suite.is("seconds of the parts", 1 + 9 * 999, tower.ofItem(0, 6));
        Suite.is("talk as the draft is empty anew", 1, tower.talk(7));
    }

    private static void music() {
        Taped tower = new Taped();
        Suite.refuses(tower, "music(10, 0)", Suite.INDEX, () -> tower.music(10, 0));
        Suite.refuses(tower, "music(-1, 301)", Suite.INDEX, () -> tower.music(-1, 301));
        for (int far : Suite.FAR_OUT) {
            Suite.refuses(tower, "music(" + far + ", 1)", Suite.INDEX, () -> tower.music(far, 1));
            Suite.refuses(tower, "music(0, " + far + ")", Suite.ARGUMENT, () -> tower.music(0, far));
        }
        Suite.refuses(tower, "music(0, 0)", Suite.ARGUMENT, () -> tower.music(0, 0));
        Suite.refuses(tower, "music(9, 301)", Suite.ARGUMENT, () -> tower.music(9, 301));
        Suite.is("music(0, 1)", 1, tower.music(0, 1));
        Suite.is("music(9, 300)", 2, tower.music(9, 300));
        tower.songOut(4);
        Suite.refuses(tower, "music of a song that is out", Suite.STATE, () -> tower.music(4, 1));
        Suite.refuses(tower, "music of a song that is out, of 0", Suite.ARGUMENT, () -> tower.music(4, 0));
        for (int i = 3; i <= 10; i++) {
            Suite.is("music(5, 5)", i, tower.music(5, 5));
        }
        Suite.refuses(tower, "an eleventh music", Suite.STATE, () -> tower.music(3, 1));
        Suite.refuses(tower, "an eleventh music of song 10", Suite.INDEX, () -> tower.music(10, 1));
        Suite.refuses(tower, "an eleventh music of 301", Suite.ARGUMENT, () -> tower.music(0, 301));
    }

    private static void slot() {
        Taped tower = new Taped();
        Suite.refuses(tower, "slot(3)", Suite.ARGUMENT, () -> tower.slot(3));
        for (int far : Suite.FAR_OUT) {
            Suite.refuses(tower, "slot(" + far + ")", Suite.ARGUMENT, () -> tower.slot(far));
        }
        for (int i = 0; i < 10; i++) {
            Suite.is("slot", i + 1, tower.slot(i % 3));
        }
        Suite.refuses(tower, "an eleventh slot", Suite.STATE, () -> tower.slot(0));
        Suite.refuses(tower, "an eleventh slot of place 3", Suite.ARGUMENT, () -> tower.slot(3));
        tower.item(3, 0);
        Suite.is("the slots", " 3 0 1 0 10 10 0 0", Suite.item(tower, 0).substring(0, 18));
        Suite.is("a slot of place 2", " 2 0 2 0", Suite.part(tower, 0, 2));
    }

    private static void item() {
        Taped tower = new Taped();
        Suite.refuses(tower, "item without a part", Suite.STATE, () -> tower.item(0, 0));
        Suite.refuses(tower, "item of show 4 without a part", Suite.INDEX, () -> tower.item(4, -1));
        Suite.refuses(tower, "item at 10000 without a part", Suite.ARGUMENT, () -> tower.item(3, 10000));
        tower.talk(3);
        for (int far : Suite.FAR_OUT) {
            Suite.refuses(tower, "item of show " + far, Suite.INDEX, () -> tower.item(far, 0));
            Suite.refuses(tower, "item at " + far, Suite.ARGUMENT, () -> tower.item(0, far));
        }
        tower.pass(4);
        Suite.refuses(tower, "item at an hour that is over", Suite.ARGUMENT, () -> tower.item(0, 3));
        Suite.is("item at the present hour", 0, tower.item(3, 4));
        Suite.is("is it released", 1, tower.ofItem(0, 2));
        Suite.refuses(tower, "item as the draft is empty anew", Suite.STATE, () -> tower.item(0, 4));
        tower.slot(1);
        Suite.is("item at 9999, of a slot alone", 1, tower.item(0, 9999));
        Suite.is("is it released", 0, tower.ofItem(1, 2));
        Suite.is("its hour", 9999, tower.ofItem(1, 1));
        tower.talk(1);
        Suite.is("parts of the draft behind it", 2, tower.talk(1));
        Suite.is("the first item has its own parts", 1, tower.ofItem(0, 4));
    }

    private static void itemCutsWhatWentOut() {
        Taped tower = new Taped();
        tower.app(0);
        tower.music(3, 10);
        tower.music(4, 20);
        tower.music(3, 30);
        Suite.is("parts of the draft are no parts of items", 0, tower.songOut(3));
        Suite.is("item", 0, tower.item(0, 0));
        Suite.is("item", " 0 0 1 0 3 1 20 0 / 1 10 3 1 / 1 20 4 0 / 1 30 3 1 counts 0 0", Suite.item(tower, 0));
        Suite.is("that it is released is its one change", 1, tower.poll(0));
        Suite.is("no more changes", 0, tower.poll(0));
        Suite.refuses(tower, "cut of what was cut", Suite.STATE, () -> tower.cut(0, 0));
        Suite.refuses(tower, "cut of the only part", Suite.STATE, () -> tower.cut(0, 1));
    }

    private static void itemOfADraftThatIsAllOut() {
        Taped tower = new Taped();
        tower.music(3, 10);
        tower.music(5, 10);
        tower.songOut(3);
        tower.songOut(5);
        Suite.refuses(tower, "item that would be all cut", Suite.STATE, () -> tower.item(0, 0));
        Suite.is("the draft keeps its parts", 3, tower.slot(0));
        Suite.is("item with a slot to stay", 0, tower.item(0, 0));
        Suite.is("it is not withdrawn", 0, tower.ofItem(0, 3));
        Suite.is("its parts not cut", 1, tower.ofItem(0, 5));
    }

    private static void twentyFourItems() {
        Taped tower = new Taped();
        for (int i = 0; i < 24; i++) {
            tower.talk(i + 1);
            Suite.is("item", i, tower.item(i % 4, 0));
        }
        tower.talk(1);
        Suite.refuses(tower, "a 25th item", Suite.STATE, () -> tower.item(0, 0));
        Suite.refuses(tower, "a 25th item of no show", Suite.INDEX, () -> tower.item(-1, 0));
        Suite.refuses(tower, "a 25th item of no hour", Suite.ARGUMENT, () -> tower.item(0, -1));
        Suite.is("the draft keeps its part", 2, tower.talk(1));
        Suite.is("the last one", 24, tower.ofItem(23, 6));
    }

    private static void cut() {
        Taped tower = new Taped();
        tower.talk(10);
        tower.music(2, 20);
        tower.slot(0);
        tower.item(0, 3);
        Suite.is("cut of one that is not released", 2, tower.cut(0, 1));
        Suite.is("the others keep their numbers", " 0 3 0 0 3 2 10 0 / 0 10 -1 0 / 1 20 2 1 / 2 0 0 0 counts 0 0",
                Suite.item(tower, 0));
        tower.pass(3);
        Suite.is("cut of one that is released", 1, tower.cut(0, 0));
        Suite.is("a slot alone stays", " 0 3 1 0 3 1 0 0", Suite.item(tower, 0).substring(0, 16));
        Suite.is("a song that was cut is not cut anew", 0, tower.songOut(2));
    }

    private static void cutRefuses() {
        Taped tower = new Taped();
        Suite.refuses(tower, "cut without an item", Suite.INDEX, () -> tower.cut(0, 0));
        tower.talk(10);
        tower.talk(20);
        tower.item(0, 0);
        tower.talk(10);
        tower.talk(20);
        tower.item(0, 0);
        for (int far : Suite.FAR_OUT) {
            Suite.refuses(tower, "cut(" + far + ", 0)", Suite.INDEX, () -> tower.cut(far, 0));
            Suite.refuses(tower, "cut(0, " + far + ")", Suite.INDEX, () -> tower.cut(0, far));
        }
        Suite.refuses(tower, "cut(2, 0)", Suite.INDEX, () -> tower.cut(2, 0));
        Suite.refuses(tower, "cut(0, 2)", Suite.INDEX, () -> tower.cut(0, 2));
        tower.cut(0, 1);
        Suite.refuses(tower, "cut of a part that is cut", Suite.STATE, () -> tower.cut(0, 1));
        Suite.refuses(tower, "cut of the only part", Suite.STATE, () -> tower.cut(0, 0));
        tower.withdraw(1);
        Suite.refuses(tower, "cut of one that is withdrawn", Suite.STATE, () -> tower.cut(1, 0));
        Suite.refuses(tower, "cut of no part of one that is withdrawn", Suite.INDEX, () -> tower.cut(1, 2));
    }

    private static void withdraw() {
        Taped tower = new Taped();
        Suite.refuses(tower, "withdraw without an item", Suite.INDEX, () -> withdrawn(tower, 0));
        tower.talk(10);
        tower.item(0, 0);
        tower.talk(10);
        tower.item(0, 9);
        for (int far : Suite.FAR_OUT) {
            Suite.refuses(tower, "withdraw(" + far + ")", Suite.INDEX, () -> withdrawn(tower, far));
        }
        Suite.refuses(tower, "withdraw(2)", Suite.INDEX, () -> withdrawn(tower, 2));
        tower.withdraw(1);
        Suite.is("one that is not released is withdrawn", " 0 9 0 1 1 1 10 0 / 0 10 -1 0 counts 0 0", Suite.item(tower, 1));
        Suite.is("the other one is not", 0, tower.ofItem(0, 3));
        tower.withdraw(0);
        Suite.is("one that is released is withdrawn", 1, tower.ofItem(0, 3));
        Suite.is("it is released all the same", 1, tower.ofItem(0, 2));
        Suite.refuses(tower, "withdraw anew", Suite.STATE, () -> withdrawn(tower, 1));
        tower.pass(9);
        Suite.is("a withdrawn one is released as its hour comes", 1, tower.ofItem(1, 2));
        Suite.refuses(tower, "withdraw anew as it is released", Suite.STATE, () -> withdrawn(tower, 1));
    }

    private static int withdrawn(Taped tower, int item) {
        tower.withdraw(item);
        return 0;
    }

    private static void songOut() {
        Taped tower = new Taped();
        for (int far : Suite.FAR_OUT) {
            Suite.refuses(tower, "songOut(" + far + ")", Suite.INDEX, () -> tower.songOut(far));
        }
        Suite.refuses(tower, "songOut(10)", Suite.INDEX, () -> tower.songOut(10));
        tower.music(1, 10);
        tower.slot(1);
        tower.music(1, 30);
        tower.music(2, 5);
        tower.item(0, 0);
        tower.talk(1);
        tower.music(1, 3);
        tower.item(1, 50);
        tower.talk(1);
        tower.music(1, 4);
        tower.item(2, 0);
        tower.withdraw(2);
        tower.music(1, 9);
        Suite.is("songOut(1): released, not released and withdrawn", 4, tower.songOut(1));
        Suite.is("item 0", " 0 0 1 0 4 2 5 0 / 1 10 1 1 / 2 0 1 0 / 1 30 1 1 / 1 5 2 0 counts 0 0", Suite.item(tower, 0));
        Suite.is("item 1", " 1 50 0 0 2 1 1 0 / 0 1 -1 0 / 1 3 1 1 counts 0 0", Suite.item(tower, 1));
        Suite.is("item 2", " 2 0 1 1 2 1 1 0 / 0 1 -1 0 / 1 4 1 1 counts 0 0", Suite.item(tower, 2));
        Suite.refuses(tower, "songOut anew", Suite.STATE, () -> tower.songOut(1));
        Suite.is("a song without a music goes out", 0, tower.songOut(9));
        Suite.refuses(tower, "songOut anew", Suite.STATE, () -> tower.songOut(9));
        Suite.is("song 0", 0, tower.songOut(0));
    }

    private static void songOutWithdraws() {
        Taped tower = new Taped();
        tower.music(1, 10);
        tower.music(2, 10);
        tower.item(0, 0);
        tower.music(1, 10);
        tower.item(0, 7);
        Suite.is("songOut(1)", 2, tower.songOut(1));
        Suite.is("one that has a part left is not withdrawn", 0, tower.ofItem(0, 3));
        Suite.is("one all of whose parts are cut is withdrawn", " 0 7 0 1 1 0 0 0", Suite.item(tower, 1).substring(0, 16));
        Suite.is("songOut(2)", 1, tower.songOut(2));
        Suite.is("now the first one is withdrawn too", " 0 0 1 1 2 0 0 0", Suite.item(tower, 0).substring(0, 16));
        Suite.refuses(tower, "withdraw of it", Suite.STATE, () -> withdrawn(tower, 0));
        Suite.refuses(tower, "cut of it", Suite.STATE, () -> tower.cut(0, 0));
    }

    private static void pass() {
        Taped tower = new Taped();
        Suite.refuses(tower, "pass(0)", Suite.ARGUMENT, () -> tower.pass(0));
        Suite.refuses(tower, "pass(1000)", Suite.ARGUMENT, () -> tower.pass(1000));
        for (int far : Suite.FAR_OUT) {
            Suite.refuses(tower, "pass(" + far + ")", Suite.ARGUMENT, () -> tower.pass(far));
        }
        Suite.is("pass(1)", 1, tower.pass(1));
        for (int i = 1; i <= 10; i++) {
            Suite.is("pass(999)", 1 + i * 999, tower.pass(999));
        }
        Suite.refuses(tower, "pass beyond 9999", Suite.STATE, () -> tower.pass(999));
        Suite.is("pass to 9998", 9998, tower.pass(9998 - 9991));
        Suite.refuses(tower, "pass to 10000", Suite.STATE, () -> tower.pass(2));
        Suite.is("pass to 9999", 9999, tower.pass(1));
        Suite.is("hour", 9999, tower.hour());
        Suite.refuses(tower, "pass beyond 9999", Suite.STATE, () -> tower.pass(1));
        Suite.refuses(tower, "pass(0) at the end", Suite.ARGUMENT, () -> tower.pass(0));
        tower.talk(1);
        Suite.is("an item at 9999", 0, tower.item(0, 9999));
        Suite.is("is it released", 1, tower.ofItem(0, 2));
    }

    private static void hourIsReleased() {
        Taped tower = new Taped();
        tower.talk(1);
        tower.item(0, 3);
        tower.talk(1);
        tower.item(0, 5);
        tower.pass(2);
        Suite.is("ahead of its hour", 0, tower.ofItem(0, 2));
        tower.pass(1);
        Suite.is("in its hour", 1, tower.ofItem(0, 2));
        Suite.is("the other one ahead of its hour", 0, tower.ofItem(1, 2));
        Suite.is("pass over its hour", 903, tower.pass(900));
        Suite.is("behind its hour", 1, tower.ofItem(1, 2));
        Suite.is("hour", 903, tower.hour());
    }

    private static void ofItem() {
        Taped tower = new Taped();
        Suite.refuses(tower, "ofItem(0, 0) without one", Suite.INDEX, () -> tower.ofItem(0, 0));
        tower.talk(10);
        tower.music(7, 20);
        tower.slot(2);
        tower.talk(40);
        tower.item(2, 6);
        for (int far : Suite.FAR_OUT) {
            Suite.refuses(tower, "ofItem(" + far + ", 9)", Suite.INDEX, () -> tower.ofItem(far, 9));
            Suite.refuses(tower, "ofItem(0, " + far + ")", Suite.ARGUMENT, () -> tower.ofItem(0, far));
        }
        Suite.refuses(tower, "ofItem(1, 8)", Suite.INDEX, () -> tower.ofItem(1, 8));
        Suite.refuses(tower, "ofItem(0, 8)", Suite.ARGUMENT, () -> tower.ofItem(0, 8));
        Suite.is("ofItem", " 2 6 0 0 4 4 70 0", Suite.item(tower, 0).substring(0, 17));
        tower.pass(6);
        tower.ask(0, 0);
        tower.ask(0, 0);
        tower.cut(0, 0);
        Suite.is("ofItem", " 2 6 1 0 4 3 60 2", Suite.item(tower, 0).substring(0, 17));
        tower.withdraw(0);
        Suite.is("ofItem", " 2 6 1 1 4 3 60 2", Suite.item(tower, 0).substring(0, 17));
        tower.slot(2);
        tower.item(1, 6);
        Suite.is("ofItem of another one", " 1 6 1 0 1 1 0 0", Suite.item(tower, 1).substring(0, 16));
    }

    private static void ofPart() {
        Taped tower = new Taped();
        Suite.refuses(tower, "ofPart(0, 0, 0) without one", Suite.INDEX, () -> tower.ofPart(0, 0, 0));
        tower.talk(999);
        tower.music(9, 300);
        tower.slot(2);
        tower.item(2, 6);
        for (int far : Suite.FAR_OUT) {
            Suite.refuses(tower, "ofPart(" + far + ", 0, 9)", Suite.INDEX, () -> tower.ofPart(far, 0, 9));
            Suite.refuses(tower, "ofPart(0, " + far + ", 9)", Suite.INDEX, () -> tower.ofPart(0, far, 9));
            Suite.refuses(tower, "ofPart(0, 0, " + far + ")", Suite.ARGUMENT, () -> tower.ofPart(0, 0, far));
        }
        Suite.refuses(tower, "ofPart(1, 0, 0)", Suite.INDEX, () -> tower.ofPart(1, 0, 0));
        Suite.refuses(tower, "ofPart(0, 3, 4)", Suite.INDEX, () -> tower.ofPart(0, 3, 4));
        Suite.refuses(tower, "ofPart(0, 2, 4)", Suite.ARGUMENT, () -> tower.ofPart(0, 2, 4));
        Suite.is("a talk", " 0 999 -1 0", Suite.part(tower, 0, 0));
        Suite.is("a music", " 1 300 9 0", Suite.part(tower, 0, 1));
        Suite.is("a slot", " 2 0 2 0", Suite.part(tower, 0, 2));
        tower.cut(0, 2);
        tower.cut(0, 0);
        Suite.is("a talk that is cut", " 0 999 -1 1", Suite.part(tower, 0, 0));
        Suite.is("a music that is not", " 1 300 9 0", Suite.part(tower, 0, 1));
        Suite.is("a slot that is cut", " 2 0 2 1", Suite.part(tower, 0, 2));
        tower.songOut(9);
        Suite.is("a music that is cut by its song", " 1 300 9 1", Suite.part(tower, 0, 1));
    }
}
