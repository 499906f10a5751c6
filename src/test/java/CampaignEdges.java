/** The words of promises 12, 13, 21 and 23, and of the terms of campaigns. */
final class CampaignEdges {
    private static final int CAMPAIGN = 12, ASK = 13, OF_CAMPAIGN = 21, AD = 23;

    private CampaignEdges() {
    }

    static void all() {
        campaign();
        hoursOfACampaign();
        ask();
        ofCampaign();
        ad();
        termsOfACampaign();
        due();
        asking();
        whichAd();
        daily();
        downloads();
    }

    /** A good campaign, but for one of its arguments. */
    private static int campaign(Taped tower, int which, int value) {
        int[] good = {1, 2, 30, 0, 9999, 50, 2};
        good[which] = value;
        return tower.campaign(good[0], good[1], good[2], good[3], good[4], good[5], good[6]);
    }

    private static void argument(String name, int which, int least, int most) {
        Edges.range(name, Towers::empty, least, most, Suite.ARGUMENT, (tower, value) -> campaign(tower, which, value));
    }

    private static void campaign() {
        Sentences.hold(CAMPAIGN, "Adds a CAMPAIGN.", () -> {
            Taped tower = new Taped();
            Suite.refuses(tower, "ofCampaign ahead of that", Suite.INDEX, () -> tower.ofCampaign(0, 0));
            tower.campaign(0, 0, 5, 0, 1, 7, 1);
            Suite.is("ofCampaign behind that", " 0 7 0", Suite.campaign(tower, 0));
        });
        Sentences.hold(CAMPAIGN, "- `place`: 0 to 2", () -> {
            argument("place", 0, 0, 2);
            for (int place = 0; place < 3; place++) {
                Taped tower = Towers.slots(0, 1, 2);
                campaign(tower, 0, place);
                Towers.passTo(tower, 200);
                tower.ask(0, 0);
                Suite.is("ads of place " + place, place == 0 ? " 0 -1 -1" : place == 1 ? " -1 0 -1" : " -1 -1 0", Suite.ads(tower, 0));
            }
        });
        Sentences.hold(CAMPAIGN, "- `group`: 0 to 4", () -> {
            argument("group", 1, 0, 4);
            Taped tower = Towers.slots(0, 0, 0, 0, 0, 0, 0);
            for (int i = 0; i < 7; i++) {
                tower.campaign(0, i % 5, 5, 0, 1, 9, 3);
            }
            tower.ask(0, 0);
            Suite.is("one of each", " 0 1 2 3 4 -1 -1", Suite.ads(tower, 0));
        });
        Sentences.hold(CAMPAIGN, "- `seconds`: 5 to 60", () -> {
            argument("seconds", 2, 5, 60);
            for (int seconds : new int[] {5, 6, 59, 60}) {
                Taped tower = Towers.slots(1);
                tower.campaign(1, 0, seconds, 0, 1, 1, 1);
                tower.ask(0, 0);
                Suite.is("of the ad", seconds, tower.ofDownload(0, 3));
            }
        });
        Sentences.hold(CAMPAIGN, "- `many`: 1 to 99", () -> {
            argument("many", 5, 1, 99);
            for (int many : new int[] {1, 2, 98, 99}) {
                Taped tower = new Taped();
                tower.campaign(0, 0, 5, 0, 1, many, 1);
                Suite.is("due", many, tower.ofCampaign(0, 1));
            }
        });
        Sentences.hold(CAMPAIGN, "- `daily`: 1 to 3", () -> argument("daily", 6, 1, 3));
        Sentences.hold(CAMPAIGN, "Returns its number.", () -> {
            Taped tower = new Taped();
            for (int i = 0; i < 8; i++) {
                Suite.is("the number", i, tower.campaign(0, 4 - i % 5, 5, 0, 1, 10 + i, 1));
                Suite.is("the campaign of that number", 10 + i, tower.ofCampaign(i, 1));
            }
        });
        Sentences.hold(CAMPAIGN, "Throws `IllegalArgumentException` if an argument is out of range", () -> {
            int[][] beside = {{-1, 3}, {-1, 5}, {4, 61}, {-1, 9999}, {0, 10000}, {0, 100}, {0, 4}};
            for (int which = 0; which < beside.length; which++) {
                int at = which;
                Edges.refuses("argument " + which, Towers::empty, Suite.ARGUMENT,
                        (tower, value) -> campaign(tower, at, value), beside[which]);
            }
            Suite.is("none of them is", 0, campaign(new Taped(), 0, 1));
        });
        Sentences.hold(CAMPAIGN, "Throws `IllegalStateException` if there are 8", () -> {
            Taped tower = new Taped();
            for (int i = 0; i < 6; i++) {
                tower.campaign(0, 0, 5, 0, 1, 1, 1);
            }
            tower.pass(1);
            Suite.is("there are 6", 6, tower.campaign(0, 0, 5, 0, 1, 1, 1));
            Suite.is("there are 7", 7, tower.campaign(0, 0, 5, 0, 1, 1, 1));
            Suite.refuses(tower, "there are 8", Suite.STATE, () -> tower.campaign(0, 0, 5, 0, 1, 1, 1));
            Suite.refuses(tower, "there are 8, all over", Suite.STATE, () -> tower.campaign(2, 4, 60, 9998, 9999, 99, 3));
        });
    }

    private static void hoursOfACampaign() {
        Sentences.hold(CAMPAIGN, "- `from`: 0 to 9998: its first hour, also one that is over", () -> {
            Edges.range("from", Towers::empty, 0, 9998, Suite.ARGUMENT, (tower, from) -> campaign(tower, 3, from));
            Taped first = Towers.at(6);
            first.campaign(0, 0, 5, 7, 8, 9, 1);
            Suite.is("one hour ahead of it", 0, first.ofCampaign(0, 1));
            first.pass(1);
            Suite.is("in its first hour", 9, first.ofCampaign(0, 1));
            Taped over = Towers.at(6);
            Suite.is("one that is over", 0, over.campaign(0, 0, 5, 5, 7, 8, 1));
            Suite.is("in the second of two hours", 8, over.ofCampaign(0, 1));
            Suite.is("one all of whose hours are over", 1, over.campaign(0, 0, 5, 4, 6, 8, 1));
            Suite.is("behind its hours", 0, over.ofCampaign(1, 1));
            Suite.is("at the end", 0, Towers.at(9999).campaign(0, 0, 5, 0, 1, 8, 1));
        });
        Sentences.hold(CAMPAIGN, "- `to`: above from, to 9999: the hour ahead of which it ends", () -> {
            Edges.range("to", Towers::empty, 1, 9999, Suite.ARGUMENT, (tower, to) -> campaign(tower, 4, to));
            Edges.range("to, from 40", Towers::empty, 41, 9999, Suite.ARGUMENT, (tower, to) -> tower.campaign(0, 0, 5, 40, to, 1, 1));
            Edges.range("to, from 9998", Towers::empty, 9999, 9999, Suite.ARGUMENT, (tower, to) -> tower.campaign(0, 0, 5, 9998, to, 1, 1));
            Edges.refuses("to, from 9999", Towers::empty, Suite.ARGUMENT, (tower, to) -> tower.campaign(0, 0, 5, 9999, to, 1, 1),
                    9998, 9999, 10000);
            Taped tower = Towers.slots(0);
            tower.campaign(0, 0, 5, 3, 6, 99, 3);
            int[] ads = {-1, -1, -1, 0, 0, 0, -1, -1};
            for (int hour = 0; hour < ads.length; hour++) {
                tower.ask(hour, 0);
                Suite.is("in the hour " + hour, ads[hour], tower.ad(hour, 0));
                tower.pass(1);
            }
        });
    }

    private static void ask() {
        Sentences.hold(ASK, "A listener asks for an ITEM.", () -> {
            Taped tower = Towers.talks(10);
            Towers.addTalks(tower, 0, 0, 20);
            tower.ask(7, 1);
            Suite.is("whose, and which", " 7 1 0 20", Edges.each((on, what) -> on.ofDownload(0, what), tower, 0, 3));
        });
        Sentences.hold(ASK, "Returns the number of the DOWNLOAD.", () -> {
            Taped tower = Towers.items(2);
            for (int i = 0; i < 60; i++) {
                Suite.is("the number", i, tower.ask(9 - i % 10, i % 2));
                Suite.is("the listener of it", 9 - i % 10, tower.ofDownload(i, 0));
            }
        });
        Sentences.hold(ASK, "Throws `IndexOutOfBoundsException` if there is no such listener", () ->
            Edges.range("listener", () -> Towers.items(1), 0, 9, Suite.INDEX, (tower, listener) -> tower.ask(listener, 0)));
        Sentences.hold(ASK, " or ITEM", () -> {
            Edges.range("item", () -> Towers.items(2), 0, 1, Suite.INDEX, (tower, item) -> tower.ask(0, item));
            Edges.range("item", () -> Towers.items(24), 0, 23, Suite.INDEX, (tower, item) -> tower.ask(9, item));
            Edges.refuses("item", Towers::empty, Suite.INDEX, (tower, item) -> tower.ask(0, item), -1, 0, 1);
        });
        Sentences.hold(ASK, "Throws `IllegalStateException` if the ITEM is not RELEASED", () -> {
            Taped tower = new Taped();
            Towers.addTalks(tower, 0, 5, 10);
            Suite.refuses(tower, "five hours ahead", Suite.STATE, () -> tower.ask(0, 0));
            tower.pass(4);
            Suite.refuses(tower, "one hour ahead", Suite.STATE, () -> tower.ask(0, 0));
            tower.pass(1);
            Suite.is("in its hour", 0, tower.ask(0, 0));
            tower.pass(1);
            Suite.is("one hour behind", 1, tower.ask(0, 0));
        });
        Sentences.hold(ASK, ", or WITHDRAWN", () -> {
            Taped tower = Towers.items(3);
            tower.withdraw(1);
            Edges.refuses("item", () -> tower, Suite.STATE, (on, item) -> on.ask(0, item), 1);
            Edges.answers("item", tower::fork, (on, item) -> on.ask(0, item), 0, 2);
            Taped song = new Taped();
            song.music(1, 2);
            song.item(0, 0);
            song.ask(0, 0);
            song.songOut(1);
            Suite.refuses(song, "withdrawn by a song", Suite.STATE, () -> song.ask(0, 0));
            Taped later = new Taped();
            Towers.addTalks(later, 0, 2, 1);
            later.withdraw(0);
            Suite.refuses(later, "and not released", Suite.STATE, () -> later.ask(0, 0));
            later.pass(2);
            Suite.refuses(later, "and released", Suite.STATE, () -> later.ask(0, 0));
        });
        Sentences.hold(ASK, ", or there are 60 DOWNLOADS", () -> {
            Taped tower = Towers.items(2);
            for (int i = 0; i < 58; i++) {
                tower.ask(i % 10, i % 2);
            }
            Suite.is("there are 58", 58, tower.ask(0, 0));
            Suite.is("there are 59", 59, tower.ask(9, 1));
            Suite.refuses(tower, "there are 60", Suite.STATE, () -> tower.ask(0, 0));
            Suite.refuses(tower, "there are 60, for another one", Suite.STATE, () -> tower.ask(9, 1));
        });
    }

    private static void ofCampaign() {
        Sentences.hold(OF_CAMPAIGN, "Tells of a CAMPAIGN: 0 how many ads were put in", () -> {
            Taped tower = Towers.slots(0, 1);
            tower.campaign(0, 0, 5, 0, 1, 9, 1);
            tower.campaign(1, 1, 5, 0, 1, 2, 1);
            Suite.is("none", " 0 0", Edges.each((on, campaign) -> on.ofCampaign(campaign, 0), tower, 0, 1));
            for (int i = 0; i < 10; i++) {
                tower.ask(i, 0);
                Suite.is("as " + (i + 1) + " asked", " " + Math.min(9, i + 1) + " " + Math.min(2, i + 1),
                        Edges.each((on, campaign) -> on.ofCampaign(campaign, 0), tower, 0, 1));
            }
            tower.pass(1);
            Suite.is("also out of its hours", " 9 2", Edges.each((on, campaign) -> on.ofCampaign(campaign, 0), tower, 0, 1));
        });
        Sentences.hold(OF_CAMPAIGN, ", 1 what it is DUE now, 0 out of its hours", () -> {
            Taped tower = new Taped();
            tower.campaign(0, 0, 5, 2, 5, 99, 1);
            int[] due = {0, 0, 33, 66, 99, 0, 0};
            for (int hour = 0; hour < due.length; hour++) {
                Suite.is("in the hour " + hour, due[hour], tower.ofCampaign(0, 1));
                tower.pass(1);
            }
        });
        Sentences.hold(OF_CAMPAIGN, ", 2 how many of its ads are HEARD.", () -> {
            Taped tower = Towers.slots(0, 1);
            tower.campaign(0, 0, 5, 0, 1, 9, 3);
            tower.campaign(1, 1, 6, 0, 1, 9, 3);
            for (int i = 0; i < 4; i++) {
                tower.ask(i, 0);
            }
            Suite.is("none", " 0 0", Edges.each((on, campaign) -> on.ofCampaign(campaign, 2), tower, 0, 1));
            tower.load(0, 0, 5);
            Suite.is("one of the first", " 1 0", Edges.each((on, campaign) -> on.ofCampaign(campaign, 2), tower, 0, 1));
            tower.load(1, 5, 11);
            tower.load(2, 0, 11);
            tower.load(3, 1, 10);
            Suite.is("two of each", " 2 2", Edges.each((on, campaign) -> on.ofCampaign(campaign, 2), tower, 0, 1));
            tower.pass(1);
            tower.ask(4, 0);
            Towers.addTalks(tower, 0, 1, 5);
            tower.ask(5, 1);
            tower.load(5, 0, 5);
            Suite.is("none in an empty slot, nor in a download without one", " 2 2",
                    Edges.each((on, campaign) -> on.ofCampaign(campaign, 2), tower, 0, 1));
        });
        Sentences.hold(OF_CAMPAIGN, "- `what`: 0 to 2", () ->
            Edges.answers("what", Towers::full, (tower, what) -> tower.ofCampaign(0, what), 0, 1, 2));
        Sentences.hold(OF_CAMPAIGN, "Throws `IndexOutOfBoundsException` if there is no such CAMPAIGN", () -> {
            Edges.range("campaign", () -> campaigns(2), 0, 1, Suite.INDEX, (tower, campaign) -> tower.ofCampaign(campaign, 0));
            Edges.range("campaign", () -> campaigns(8), 0, 7, Suite.INDEX, (tower, campaign) -> tower.ofCampaign(campaign, 2));
            Edges.refuses("campaign", Towers::empty, Suite.INDEX, (tower, campaign) -> tower.ofCampaign(campaign, 0), -1, 0, 1);
        });
        Sentences.hold(OF_CAMPAIGN, "Throws `IllegalArgumentException` if what is out of range", () ->
            Edges.range("what", Towers::full, 0, 2, Suite.ARGUMENT, (tower, what) -> tower.ofCampaign(0, what)));
    }

    private static Taped campaigns(int many) {
        Taped tower = Towers.slots(0, 1, 2);
        for (int i = 0; i < many; i++) {
            tower.campaign(i % 3, i % 5, 5, 0, 9, 9, 3);
        }
        return tower;
    }

    private static void ad() {
        Sentences.hold(AD, "Returns which ad is in a SLOT of a DOWNLOAD.", () -> {
            Taped tower = campaigns(3);
            tower.ask(0, 0);
            tower.pass(8);
            tower.ask(0, 0);
            tower.ask(1, 0);
            Suite.is("of the second one", " 0 1 2", Suite.ads(tower, 1));
            Suite.is("of the third one", " 0 1 2", Suite.ads(tower, 2));
        });
        Sentences.hold(AD, "- `at`: the place of the SLOT among the PARTS of the DOWNLOAD, from 0", () -> {
            Taped tower = new Taped();
            tower.talk(1);
            tower.slot(0);
            tower.talk(1);
            tower.slot(1);
            tower.item(0, 0);
            tower.campaign(0, 0, 5, 0, 1, 9, 3);
            tower.campaign(1, 1, 5, 0, 1, 9, 3);
            tower.ask(0, 0);
            tower.cut(0, 0);
            tower.ask(0, 0);
            tower.cut(0, 1);
            tower.ask(0, 0);
            Suite.is("all parts", " -1 0 -1 1", Suite.ads(tower, 0));
            Suite.is("one is cut", " 0 -1 1", Suite.ads(tower, 1));
            Suite.is("a slot is cut", " -1 1", Suite.ads(tower, 2));
        });
        Sentences.hold(AD, "Returns the CAMPAIGN; NONE if the SLOT is empty", () -> {
            Taped tower = Towers.slots(0, 1, 0);
            tower.campaign(2, 0, 5, 0, 1, 9, 3);
            tower.campaign(1, 0, 5, 0, 1, 9, 3);
            tower.ask(0, 0);
            Suite.is("the ads", " -1 1 -1", Suite.ads(tower, 0));
        });
        Sentences.hold(AD, ", or it is no SLOT.", () -> {
            Taped tower = Towers.items(1);
            tower.campaign(0, 0, 5, 0, 1, 9, 3);
            tower.ask(0, 0);
            Suite.is("a talk and a music", " -1 -1", Suite.ads(tower, 0));
        });
        Sentences.hold(AD, "Throws `IndexOutOfBoundsException` if there is no such DOWNLOAD", () -> {
            Edges.range("download", () -> asked(2), 0, 1, Suite.INDEX, (tower, download) -> tower.ad(download, 0));
            Edges.range("download", () -> asked(60), 0, 59, Suite.INDEX, (tower, download) -> tower.ad(download, 1));
            Edges.refuses("download", Towers::empty, Suite.INDEX, (tower, download) -> tower.ad(download, 0), -1, 0, 1);
        });
        Sentences.hold(AD, ", or PART of it", () -> {
            Edges.range("at", () -> asked(1), 0, 1, Suite.INDEX, (tower, at) -> tower.ad(0, at));
            Taped ten = Towers.slots(0, 1, 2, 0, 1, 2, 0, 1, 2, 0);
            ten.ask(0, 0);
            ten.cut(0, 3);
            ten.ask(0, 0);
            Edges.range("at of ten", ten::fork, 0, 9, Suite.INDEX, (tower, at) -> tower.ad(0, at));
            Edges.range("at of nine, as one was cut", ten::fork, 0, 8, Suite.INDEX, (tower, at) -> tower.ad(1, at));
        });
    }

    private static Taped asked(int many) {
        Taped tower = Towers.slots(0, 1);
        for (int i = 0; i < many; i++) {
            tower.ask(i % 10, 0);
        }
        return tower;
    }

    private static void termsOfACampaign() {
        int terms = Sentences.TERMS;
        Sentences.hold(terms, "A CAMPAIGN has a place, 0 to 2", () -> argument("place", 0, 0, 2));
        Sentences.hold(terms, ", a group, 0 to 4", () -> argument("group", 1, 0, 4));
        Sentences.hold(terms, ", seconds, 5 to 60", () -> argument("seconds", 2, 5, 60));
        Sentences.hold(terms, ", hours from one to ahead of another one", () -> {
            Taped tower = Towers.slots(0);
            tower.campaign(0, 0, 5, 1, 3, 9, 3);
            tower.ask(0, 0);
            for (int hour = 1; hour < 4; hour++) {
                tower.pass(1);
                tower.ask(0, 0);
            }
            Suite.is("in the hours 0 to 3", " -1 0 0 -1", Edges.each((on, download) -> on.ad(download, 0), tower, 0, 3));
        });
        Sentences.hold(terms, ", many, 1 to 99, how many ads it wants", () -> {
            argument("many", 5, 1, 99);
            Taped tower = Towers.slots(0);
            tower.campaign(0, 0, 5, 0, 1, 4, 1);
            for (int listener = 0; listener < 6; listener++) {
                tower.ask(listener, 0);
            }
            Suite.is("it gets no more", " 0 0 0 0 -1 -1", Edges.each((on, download) -> on.ad(download, 0), tower, 0, 5));
        });
        Sentences.hold(terms, ", and daily, 1 to 3.", () -> argument("daily", 6, 1, 3));
        Sentences.hold(terms, "CAMPAIGNS are numbered from 0, at most 8.", () -> {
            Taped tower = new Taped();
            for (int i = 0; i < 8; i++) {
                Suite.is("the number", i, tower.campaign(i % 3, i % 5, 5, i, i + 1, 1, 1));
            }
            Suite.refuses(tower, "a ninth", Suite.STATE, () -> tower.campaign(0, 0, 5, 0, 1, 1, 1));
        });
    }

    private static void due() {
        int terms = Sentences.TERMS;
        Sentences.hold(terms, "It is DUE, in its hours,", () -> {
            Taped tower = Towers.at(9997);
            tower.campaign(0, 0, 5, 9998, 9999, 99, 1);
            Suite.is("one hour ahead", 0, tower.ofCampaign(0, 1));
            tower.pass(1);
            Suite.is("in its hour", 99, tower.ofCampaign(0, 1));
            tower.pass(1);
            Suite.is("one hour behind", 0, tower.ofCampaign(0, 1));
        });
        Sentences.hold(terms, "many times the hours from its first one to the present one, both with them,"
                + " divided by all its hours", () -> {
            Taped tower = Towers.at(10);
            tower.campaign(0, 0, 5, 10, 14, 8, 1);
            tower.campaign(0, 0, 5, 8, 14, 99, 1);
            int[][] due = {{2, 49}, {4, 66}, {6, 82}, {8, 99}, {0, 0}};
            for (int[] row : due) {
                Suite.is("in the hour " + tower.hour(), " " + row[0] + " " + row[1],
                        Edges.each((on, campaign) -> on.ofCampaign(campaign, 1), tower, 0, 1));
                tower.pass(1);
            }
        });
        Sentences.hold(terms, ", rounded down", () -> {
            Taped tower = new Taped();
            tower.campaign(0, 0, 5, 0, 9, 5, 1);
            tower.campaign(0, 0, 5, 0, 9999, 99, 1);
            int[] due = {0, 1, 1, 2, 2, 3, 3, 4, 5};
            for (int hour = 0; hour < due.length; hour++) {
                Suite.is("in the hour " + hour, due[hour], tower.ofCampaign(0, 1));
                tower.pass(1);
            }
            Towers.passTo(tower, 99);
            Suite.is("99 times 100 of 9999", 0, tower.ofCampaign(1, 1));
            tower.pass(1);
            Suite.is("99 times 101 of 9999", 1, tower.ofCampaign(1, 1));
            Towers.passTo(tower, 9997);
            Suite.is("99 times 9998 of 9999", 98, tower.ofCampaign(1, 1));
            tower.pass(1);
            Suite.is("99 times 9999 of 9999", 99, tower.ofCampaign(1, 1));
        });
        Sentences.hold(terms, "it is BEHIND by what it is DUE less how many ads of it were put in so far.", () -> {
            Taped tower = Towers.slots(0);
            tower.campaign(0, 0, 5, 0, 4, 8, 1);
            for (int i = 0; i < 4; i++) {
                tower.ask(i, 0);
            }
            Suite.is("due 2", " 0 0 -1 -1", Edges.each((on, download) -> on.ad(download, 0), tower, 0, 3));
            tower.pass(2);
            for (int i = 4; i < 10; i++) {
                tower.ask(i, 0);
            }
            Suite.is("due 6, less 2", " 0 0 0 0 -1 -1", Edges.each((on, download) -> on.ad(download, 0), tower, 4, 9));
        });
    }

    private static void asking() {
        int terms = Sentences.TERMS;
        Sentences.hold(terms, "A listener, 0 to 9, asks for an ITEM that is RELEASED, and not WITHDRAWN", () -> {
            Edges.range("listener", () -> Towers.items(1), 0, 9, Suite.INDEX, (tower, listener) -> tower.ask(listener, 0));
            Taped tower = Towers.items(2);
            Towers.addTalks(tower, 0, 1, 1);
            tower.withdraw(1);
            Edges.answers("item", tower::fork, (on, item) -> on.ask(0, item), 0);
            Edges.refuses("item", tower::fork, Suite.STATE, (on, item) -> on.ask(0, item), 1, 2);
        });
        Sentences.hold(terms, ": a DOWNLOAD of its PARTS that are not CUT, as they are then.", () -> {
            Taped tower = Towers.talks(1, 2, 4, 8);
            tower.ask(0, 0);
            tower.cut(0, 0);
            tower.ask(0, 0);
            tower.cut(0, 3);
            tower.ask(0, 0);
            tower.cut(0, 1);
            tower.ask(0, 0);
            tower.withdraw(0);
            Suite.is("their seconds", " 15 14 6 4", Edges.each((on, download) -> on.ofDownload(download, 3), tower, 0, 3));
            Suite.is("their parts", " 4 3 2 1", Edges.each((on, download) -> on.ofDownload(download, 5), tower, 0, 3));
        });
        Sentences.hold(terms, "SLOT by SLOT an ad is put in", () -> {
            Taped tower = Towers.slots(0, 0, 1, 0);
            tower.campaign(0, 0, 5, 0, 1, 3, 3);
            tower.campaign(0, 1, 5, 0, 1, 4, 3);
            tower.campaign(1, 2, 5, 0, 1, 9, 3);
            tower.ask(0, 0);
            Suite.is("the first slot has the most behind, the second the next", " 1 0 2 -1", Suite.ads(tower, 0));
        });
        Sentences.hold(terms, "; a SLOT without such stays empty, of 0 seconds.", () -> {
            Taped tower = Towers.slots(0, 1, 2);
            tower.ask(0, 0);
            tower.campaign(1, 0, 5, 0, 1, 9, 3);
            tower.ask(0, 0);
            Suite.is("all are empty", " 0 0 0 0 0 3 0 ads -1 -1 -1 anew 0 - -", Suite.download(tower, 0));
            Suite.is("two are", " 0 0 0 5 0 3 0 ads -1 0 -1 anew 0 - -", Suite.download(tower, 1));
        });
        Sentences.hold(terms, "An ad counts as put in at once, also for the next SLOT.", () -> {
            Taped tower = Towers.slots(0, 0);
            tower.campaign(0, 0, 5, 0, 1, 1, 3);
            tower.campaign(0, 1, 5, 0, 1, 2, 3);
            tower.ask(0, 0);
            tower.ask(1, 0);
            tower.ask(2, 0);
            Suite.is("behind by 1 and 2", " 1 0", Suite.ads(tower, 0));
            Suite.is("behind by 0 and 1", " 1 -1", Suite.ads(tower, 1));
            Suite.is("behind by none", " -1 -1", Suite.ads(tower, 2));
            Suite.is("how many were", " 1 2", Edges.each((on, campaign) -> on.ofCampaign(campaign, 0), tower, 0, 1));
        });
    }

    private static void whichAd() {
        int terms = Sentences.TERMS;
        Sentences.hold(terms, ": of the CAMPAIGNS that are in their hours,", () -> {
            Taped tower = Towers.slots(0);
            tower.campaign(0, 0, 5, 0, 2, 9, 3);
            tower.campaign(0, 1, 5, 1, 3, 99, 3);
            for (int hour = 0; hour < 4; hour++) {
                tower.ask(hour, 0);
                tower.pass(1);
            }
            Suite.is("in the hours 0 to 3", " 0 1 1 -1", Edges.each((on, download) -> on.ad(download, 0), tower, 0, 3));
        });
        Sentences.hold(terms, "have the place of the SLOT,", () -> {
            Taped tower = Towers.slots(2, 1, 0);
            tower.campaign(0, 0, 5, 0, 1, 9, 3);
            tower.campaign(1, 1, 5, 0, 1, 9, 3);
            tower.campaign(2, 2, 5, 0, 1, 9, 3);
            tower.ask(0, 0);
            Suite.is("each in its own", " 2 1 0", Suite.ads(tower, 0));
        });
        Sentences.hold(terms, "are BEHIND by 1 or more,", () -> {
            Taped tower = Towers.slots(0);
            tower.campaign(0, 0, 5, 0, 3, 3, 3);
            tower.ask(0, 0);
            tower.ask(1, 0);
            Suite.is("by 1, then by 0", " 0 -1", Edges.each((on, download) -> on.ad(download, 0), tower, 0, 1));
            tower.pass(2);
            tower.ask(2, 0);
            tower.ask(3, 0);
            tower.ask(4, 0);
            Suite.is("by 2, by 1, then by 0", " 0 0 -1", Edges.each((on, download) -> on.ad(download, 0), tower, 2, 4));
            Taped slow = Towers.slots(0);
            slow.campaign(0, 0, 5, 0, 2, 1, 3);
            slow.ask(0, 0);
            slow.pass(1);
            slow.ask(0, 0);
            Suite.is("by a half, rounded down, then by 1", " -1 0", Edges.each((on, download) -> on.ad(download, 0), slow, 0, 1));
        });
        Sentences.hold(terms, "and none of whose group is in this DOWNLOAD already,", () -> {
            Taped tower = Towers.slots(0, 1, 0, 2);
            tower.campaign(0, 4, 5, 0, 1, 9, 3);
            tower.campaign(1, 4, 5, 0, 1, 9, 3);
            tower.campaign(0, 0, 5, 0, 1, 8, 3);
            tower.campaign(2, 0, 5, 0, 1, 8, 3);
            tower.ask(0, 0);
            Suite.is("one of each group", " 0 -1 2 -1", Suite.ads(tower, 0));
            tower.ask(1, 0);
            Suite.is("anew in the next download", " 0 -1 2 -1", Suite.ads(tower, 1));
            Taped ahead = Towers.slots(1, 0);
            ahead.campaign(0, 3, 5, 0, 1, 99, 3);
            ahead.campaign(1, 3, 5, 0, 1, 1, 3);
            ahead.ask(0, 0);
            Suite.is("the slot that comes first has it", " 1 -1", Suite.ads(ahead, 0));
        });
        Sentences.hold(terms, "the one that is BEHIND by the most, of several the lowest", () -> {
            Taped tower = Towers.slots(0);
            tower.campaign(0, 0, 5, 0, 1, 2, 3);
            tower.campaign(0, 1, 5, 0, 1, 4, 3);
            tower.campaign(0, 2, 5, 0, 1, 3, 3);
            tower.campaign(0, 3, 5, 0, 1, 4, 3);
            for (int i = 0; i < 10; i++) {
                tower.ask(i, 0);
            }
            Suite.is("by 2 4 3 4, 2 3 3 4, 2 3 3 3, 2 2 3 3, 2 2 2 3, 2 2 2 2 and so on", " 1 3 1 2 3 0 1 2 3 0",
                    Edges.each((on, download) -> on.ad(download, 0), tower, 0, 9));
        });
    }

    private static void daily() {
        int terms = Sentences.TERMS;
        Sentences.hold(terms, "of which the listener got less than daily ads in this day,", () -> {
            for (int daily = 1; daily <= 3; daily++) {
                Taped tower = Towers.slots(0);
                tower.campaign(0, 0, 5, 0, 1, 99, daily);
                for (int i = 0; i < 8; i++) {
                    tower.ask(i / 4, 0);
                }
                String four = daily == 1 ? " 0 -1 -1 -1" : daily == 2 ? " 0 0 -1 -1" : " 0 0 0 -1";
                Suite.is("daily " + daily + ", two listeners", four + four,
                        Edges.each((on, download) -> on.ad(download, 0), tower, 0, 7));
            }
            Taped items = Towers.slots(0);
            Towers.addSlots(items, 0, 0);
            items.campaign(0, 0, 5, 0, 1, 99, 1);
            items.campaign(0, 1, 5, 0, 1, 50, 1);
            items.ask(5, 0);
            items.ask(5, 1);
            items.ask(5, 0);
            Suite.is("of two items; another campaign of its own", " 0 1 -1",
                    Edges.each((on, download) -> on.ad(download, 0), items, 0, 2));
        });
        Sentences.hold(terms, "; a day is 24 hours, the day 0 from the hour 0 on.", () -> {
            Taped tower = Towers.slots(0);
            tower.campaign(0, 0, 5, 0, 100, 99, 1);
            tower.campaign(0, 1, 5, 9900, 9999, 99, 1);
            int[] hours = {22, 23, 24, 47, 48, 71, 72, 9959, 9960, 9983, 9984, 9998};
            for (int hour : hours) {
                Towers.passTo(tower, hour);
                tower.ask(2, 0);
            }
            Suite.is("the days 0 to 3", " 0 -1 0 -1 0 -1 0", Edges.each((on, download) -> on.ad(download, 0), tower, 0, 6));
            Suite.is("the days 414 to 416", " 1 1 -1 1 -1", Edges.each((on, download) -> on.ad(download, 0), tower, 7, 11));
            Taped first = Towers.slots(0);
            first.campaign(0, 0, 5, 0, 48, 96, 2);
            for (int hour : new int[] {0, 22, 23, 24, 46, 47}) {
                Towers.passTo(first, hour);
                first.ask(2, 0);
            }
            Suite.is("two in each of the days 0 and 1", " 0 0 -1 0 0 -1", Edges.each((on, download) -> on.ad(download, 0), first, 0, 5));
        });
    }

    private static void downloads() {
        int terms = Sentences.TERMS;
        Sentences.hold(terms, "DOWNLOADS are numbered from 0, at most 60.", () -> {
            Taped tower = Towers.items(3);
            for (int i = 0; i < 60; i++) {
                Suite.is("the number", i, tower.ask(i % 10, i % 3));
            }
            Suite.refuses(tower, "a 61st", Suite.STATE, () -> tower.ask(0, 0));
            Edges.range("ofDownload", () -> asked(60), 0, 59, Suite.INDEX, (on, download) -> on.ofDownload(download, 0));
        });
        Sentences.hold(terms, "The seconds of a DOWNLOAD are counted from 0 through its PARTS, ads in the SLOTS with them.", () -> {
            Taped tower = new Taped();
            tower.talk(10);
            tower.slot(0);
            tower.slot(1);
            tower.music(1, 20);
            tower.item(0, 0);
            tower.campaign(0, 0, 7, 0, 1, 9, 3);
            tower.ask(0, 0);
            Suite.is("how many", 37, tower.ofDownload(0, 3));
            tower.load(0, 17, 18);
            Suite.is("the first of the music", 18, tower.ofDownload(0, 6));
            tower.cut(0, 0);
            Suite.is("no second of the talk", false, tower.isOwed(0, 0));
            tower.load(0, 10, 17);
            Suite.is("the ad", " 1 9 1", Suite.campaign(tower, 0));
            Suite.is("and no second of the talk", false, tower.isOwed(0, 0));
            tower.load(0, 9, 10);
            Suite.is("the last one of the talk", true, tower.isOwed(0, 0));
            Edges.range("to", tower::fork, 10, 37, Suite.ARGUMENT, (on, to) -> on.load(0, 9, to));
        });
        Sentences.hold(terms, "Bots are given ads, and OWED corrections, as others.", () -> {
            Taped tower = Towers.talks(5, 5);
            Towers.addSlots(tower, 0, 0);
            tower.campaign(0, 0, 5, 0, 1, 2, 1);
            tower.bot(4, true);
            tower.ask(4, 1);
            tower.ask(4, 1);
            tower.ask(5, 1);
            Suite.is("an ad, but no two in a day", " 0 -1 0", Edges.each((on, download) -> on.ad(download, 0), tower, 0, 2));
            Suite.is("it is put in as others are", 2, tower.ofCampaign(0, 0));
            tower.ask(4, 0);
            tower.load(3, 0, 1);
            tower.cut(0, 0);
            Suite.is("a bot is owed it", true, tower.isOwed(0, 4));
            Suite.is("a bot is told it", true, tower.tell(0, 4));
            Suite.is("for good", false, tower.isOwed(0, 4));
        });
    }
}
