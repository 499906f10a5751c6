/** Promises 12, 13, 21 and 23: campaigns, and the ads that are put in as a listener asks. */
public final class CampaignsTest {
    public static void main(String[] args) {
        campaign();
        campaignRefuses();
        due();
        askRefuses();
        sixtyDownloads();
        askTakesWhatIsNotCut();
        adOfTheRightPlace();
        behindByTheMost();
        theLowestOfSeveral();
        onlyInItsHours();
        onlyBehindByOne();
        rivals();
        dailyInADay();
        dailyIsPerListener();
        countsAtOnce();
        botsAreGivenAds();
        adRefuses();
        ofCampaign();
        heard();
        Suite.end("CampaignsTest");
    }

    private static void campaign() {
        Taped tower = new Taped();
        Suite.is("the least of all", 0, tower.campaign(0, 0, 5, 0, 1, 1, 1));
        Suite.is("the most of all", 1, tower.campaign(2, 4, 60, 9998, 9999, 99, 3));
        tower.pass(100);
        Suite.is("one that is over", 2, tower.campaign(1, 2, 30, 0, 50, 10, 2));
        for (int i = 3; i < 8; i++) {
            Suite.is("campaign", i, tower.campaign(1, 2, 30, 0, 9999, 10, 2));
        }
        Suite.refuses(tower, "a ninth campaign", Suite.STATE, () -> tower.campaign(1, 2, 30, 0, 9999, 10, 2));
        Suite.refuses(tower, "a ninth campaign of no place", Suite.ARGUMENT, () -> tower.campaign(3, 2, 30, 0, 50, 10, 2));
    }

    private static void campaignRefuses() {
        Taped tower = new Taped();
        for (int far : Suite.FAR_OUT) {
            refused(tower, far, 2, 30, 0, 50, 10, 2);
            refused(tower, 1, far, 30, 0, 50, 10, 2);
            refused(tower, 1, 2, far, 0, 50, 10, 2);
            refused(tower, 1, 2, 30, far, 50, 10, 2);
            refused(tower, 1, 2, 30, 0, far, 10, 2);
            refused(tower, 1, 2, 30, 0, 50, far, 2);
            refused(tower, 1, 2, 30, 0, 50, 10, far);
        }
        refused(tower, 3, 2, 30, 0, 50, 10, 2);
        refused(tower, 1, 5, 30, 0, 50, 10, 2);
        refused(tower, 1, 2, 4, 0, 50, 10, 2);
        refused(tower, 1, 2, 61, 0, 50, 10, 2);
        refused(tower, 1, 2, 30, 9999, 9999, 10, 2);
        refused(tower, 1, 2, 30, 9998, 10000, 10, 2);
        refused(tower, 1, 2, 30, 7, 7, 10, 2);
        refused(tower, 1, 2, 30, 7, 6, 10, 2);
        refused(tower, 1, 2, 30, 0, 0, 10, 2);
        refused(tower, 1, 2, 30, 0, 50, 0, 2);
        refused(tower, 1, 2, 30, 0, 50, 100, 2);
        refused(tower, 1, 2, 30, 0, 50, 10, 0);
        refused(tower, 1, 2, 30, 0, 50, 10, 4);
        Suite.is("the first one", 0, tower.campaign(1, 2, 30, 0, 50, 10, 2));
    }

    private static void refused(Taped tower, int place, int group, int seconds, int from, int to, int many, int daily) {
        Suite.refuses(tower, "campaign(" + place + ", " + group + ", " + seconds + ", " + from + ", " + to + ", " + many
                + ", " + daily + ")", Suite.ARGUMENT, () -> tower.campaign(place, group, seconds, from, to, many, daily));
    }

    private static void due() {
        Taped tower = new Taped();
        tower.campaign(0, 0, 5, 2, 9, 10, 1);
        tower.campaign(0, 0, 5, 0, 9999, 99, 1);
        int[] due = {0, 0, 1, 2, 4, 5, 7, 8, 10, 0, 0};
        for (int hour = 0; hour < due.length; hour++) {
            Suite.is("due in the hour " + hour, due[hour], tower.ofCampaign(0, 1));
            tower.pass(1);
        }
        tower.pass(100 - tower.hour());
        Suite.is("due in the hour 100", 99 * 101 / 9999, tower.ofCampaign(1, 1));
        while (tower.hour() < 9998) {
            tower.pass(Math.min(999, 9998 - tower.hour()));
        }
        Suite.is("due in the last hour", 99, tower.ofCampaign(1, 1));
        tower.pass(1);
        Suite.is("due at the end", 0, tower.ofCampaign(1, 1));
    }

    private static void askRefuses() {
        Taped tower = new Taped();
        Suite.refuses(tower, "ask(0, 0) without an item", Suite.INDEX, () -> tower.ask(0, 0));
        tower.talk(10);
        tower.item(0, 5);
        Suite.refuses(tower, "ask ahead of the hour", Suite.STATE, () -> tower.ask(0, 0));
        tower.pass(5);
        for (int far : Suite.FAR_OUT) {
            Suite.refuses(tower, "ask(" + far + ", 0)", Suite.INDEX, () -> tower.ask(far, 0));
            Suite.refuses(tower, "ask(0, " + far + ")", Suite.INDEX, () -> tower.ask(0, far));
        }
        Suite.refuses(tower, "ask(10, 0)", Suite.INDEX, () -> tower.ask(10, 0));
        Suite.refuses(tower, "ask(0, 1)", Suite.INDEX, () -> tower.ask(0, 1));
        Suite.is("ask(9, 0)", 0, tower.ask(9, 0));
        tower.withdraw(0);
        Suite.refuses(tower, "ask for a withdrawn one", Suite.STATE, () -> tower.ask(0, 0));
        Suite.refuses(tower, "ask of no listener for a withdrawn one", Suite.INDEX, () -> tower.ask(10, 0));
    }

    private static void sixtyDownloads() {
        Taped tower = new Taped();
        tower.slot(0);
        tower.item(0, 0);
        tower.campaign(0, 0, 5, 0, 1, 99, 3);
        for (int i = 0; i < 60; i++) {
            Suite.is("ask", i, tower.ask(i % 10, 0));
        }
        Suite.is("3 for each of 10 listeners", 30, tower.ofCampaign(0, 0));
        Suite.refuses(tower, "a 61st download", Suite.STATE, () -> tower.ask(0, 0));
        Suite.refuses(tower, "a 61st download of no item", Suite.INDEX, () -> tower.ask(0, 1));
        Suite.is("ofItem(0, 7)", 60, tower.ofItem(0, 7));
    }

    private static void askTakesWhatIsNotCut() {
        Taped tower = new Taped();
        tower.talk(10);
        tower.slot(0);
        tower.music(1, 30);
        tower.slot(1);
        tower.item(0, 0);
        tower.campaign(0, 0, 5, 0, 10, 99, 3);
        tower.campaign(1, 1, 7, 0, 10, 99, 3);
        tower.ask(4, 0);
        tower.cut(0, 0);
        tower.ask(4, 0);
        tower.cut(0, 1);
        tower.pass(2);
        tower.ask(5, 0);
        tower.songOut(1);
        tower.ask(5, 0);
        Suite.is("all parts", " 4 0 0 52 0 4 0 ads -1 0 -1 1 anew 0 - -", Suite.download(tower, 0));
        Suite.is("without the talk", " 4 0 0 42 0 3 0 ads 0 -1 1 anew 0 - -", Suite.download(tower, 1));
        Suite.is("without the slot", " 5 0 2 37 0 2 0 ads -1 1 anew 0 - -", Suite.download(tower, 2));
        Suite.is("a slot alone", " 5 0 2 7 0 1 0 ads 1 anew 0 - -", Suite.download(tower, 3));
    }

    private static void adOfTheRightPlace() {
        Taped tower = Towers.slots(2, 0, 1);
        tower.campaign(1, 0, 10, 0, 1, 5, 3);
        tower.campaign(0, 1, 20, 0, 1, 5, 3);
        tower.ask(0, 0);
        Suite.is("ads by their places", " -1 1 0", Suite.ads(tower, 0));
        Suite.is("seconds: an empty slot has none", 30, tower.ofDownload(0, 3));
    }

    private static void behindByTheMost() {
        Taped tower = Towers.slots(0);
        tower.campaign(0, 0, 10, 0, 1, 5, 3);
        tower.campaign(0, 1, 20, 0, 1, 7, 3);
        tower.campaign(0, 2, 30, 0, 1, 6, 3);
        tower.ask(0, 0);
        Suite.is("behind by 7 of 5, 7, 6", " 1", Suite.ads(tower, 0));
        tower.ask(1, 0);
        Suite.is("behind by 6 of 5, 6, 6, the lowest", " 1", Suite.ads(tower, 1));
        tower.ask(2, 0);
        Suite.is("behind by 6 of 5, 5, 6", " 2", Suite.ads(tower, 2));
        tower.ask(3, 0);
        Suite.is("behind by 5 all, the lowest", " 0", Suite.ads(tower, 3));
    }

    private static void theLowestOfSeveral() {
        Taped tower = Towers.slots(0, 0, 0, 0);
        tower.campaign(0, 3, 10, 0, 1, 5, 3);
        tower.campaign(0, 2, 20, 0, 1, 5, 3);
        tower.campaign(0, 1, 30, 0, 1, 5, 3);
        tower.ask(0, 0);
        Suite.is("slot by slot", " 0 1 2 -1", Suite.ads(tower, 0));
        Suite.is("seconds", 60, tower.ofDownload(0, 3));
    }

    private static void onlyInItsHours() {
        Taped tower = Towers.slots(0);
        tower.campaign(0, 0, 10, 2, 4, 9, 3);
        int[] ad = {-1, -1, 0, 0, -1};
        for (int hour = 0; hour < ad.length; hour++) {
            tower.ask(hour, 0);
            Suite.is("ad in the hour " + hour, ad[hour], tower.ad(hour, 0));
            tower.pass(1);
        }
        Suite.is("put in", 2, tower.ofCampaign(0, 0));
    }

    private static void onlyBehindByOne() {
        Taped tower = Towers.slots(0);
        tower.campaign(0, 0, 10, 0, 10, 5, 3);
        int[] ads = {-1, 0, -1, 0, -1, 0, -1, 0, -1, 0};
        for (int hour = 0; hour < ads.length; hour++) {
            tower.ask(hour, 0);
            tower.ask((hour + 1) % 10, 0);
            Suite.is("ad in the hour " + hour, ads[hour], tower.ad(2 * hour, 0));
            Suite.is("a second one in the hour " + hour, -1, tower.ad(2 * hour + 1, 0));
            tower.pass(1);
        }
    }

    private static void rivals() {
        Taped tower = Towers.slots(0, 1, 0, 1);
        tower.campaign(0, 4, 10, 0, 1, 9, 3);
        tower.campaign(1, 4, 20, 0, 1, 9, 3);
        tower.campaign(1, 3, 30, 0, 1, 2, 3);
        tower.campaign(0, 3, 40, 0, 1, 2, 3);
        tower.ask(0, 0);
        Suite.is("no group twice in a download", " 0 2 -1 -1", Suite.ads(tower, 0));
        tower.ask(0, 0);
        Suite.is("but in the next one", " 0 2 -1 -1", Suite.ads(tower, 1));
    }

    private static void dailyInADay() {
        Taped tower = Towers.slots(0);
        tower.campaign(0, 0, 10, 0, 100, 99, 2);
        tower.pass(22);
        tower.ask(3, 0);
        tower.pass(1);
        tower.ask(3, 0);
        tower.ask(3, 0);
        Suite.is("the third one in a day", " 0 0 -1", " " + tower.ad(0, 0) + " " + tower.ad(1, 0) + " " + tower.ad(2, 0));
        tower.pass(1);
        tower.ask(3, 0);
        tower.ask(3, 0);
        tower.pass(23);
        tower.ask(3, 0);
        Suite.is("the hour 24 is of the next day", " 0 0 -1", " " + tower.ad(3, 0) + " " + tower.ad(4, 0) + " " + tower.ad(5, 0));
        tower.pass(1);
        tower.ask(3, 0);
        Suite.is("the hour 48 is of the next day", 0, tower.ad(6, 0));
    }

    private static void dailyIsPerListener() {
        Taped tower = Towers.slots(0);
        tower.talk(1);
        tower.slot(0);
        tower.item(2, 0);
        tower.campaign(0, 0, 10, 0, 1, 99, 1);
        tower.campaign(0, 1, 10, 0, 1, 50, 1);
        tower.ask(0, 0);
        tower.ask(1, 0);
        tower.ask(0, 1);
        tower.ask(0, 1);
        tower.ask(1, 1);
        Suite.is("listener 0", " 0", Suite.ads(tower, 0));
        Suite.is("listener 1", " 0", Suite.ads(tower, 1));
        Suite.is("listener 0, another item: the other campaign", " -1 1", Suite.ads(tower, 2));
        Suite.is("listener 0: none is left", " -1 -1", Suite.ads(tower, 3));
        Suite.is("listener 1, another item", " -1 1", Suite.ads(tower, 4));
    }

    private static void countsAtOnce() {
        Taped tower = Towers.slots(0, 0, 0);
        tower.campaign(0, 0, 10, 0, 1, 1, 3);
        tower.campaign(0, 1, 10, 0, 1, 1, 3);
        tower.ask(0, 0);
        tower.ask(1, 0);
        Suite.is("each once", " 0 1 -1", Suite.ads(tower, 0));
        Suite.is("none is behind", " -1 -1 -1", Suite.ads(tower, 1));
        Suite.is("campaign 0", " 1 1 0", Suite.campaign(tower, 0));
        Suite.is("campaign 1", " 1 1 0", Suite.campaign(tower, 1));
    }

    private static void botsAreGivenAds() {
        Taped tower = Towers.slots(0);
        tower.campaign(0, 0, 10, 0, 1, 9, 1);
        tower.bot(2, true);
        tower.ask(2, 0);
        Suite.is("an ad for a bot", 0, tower.ad(0, 0));
        Suite.is("it is put in", 1, tower.ofCampaign(0, 0));
    }

    private static void adRefuses() {
        Taped tower = Towers.slots(0, 1);
        Suite.refuses(tower, "ad(0, 0) without a download", Suite.INDEX, () -> tower.ad(0, 0));
        tower.cut(0, 0);
        tower.ask(0, 0);
        for (int far : Suite.FAR_OUT) {
            Suite.refuses(tower, "ad(" + far + ", 0)", Suite.INDEX, () -> tower.ad(far, 0));
            Suite.refuses(tower, "ad(0, " + far + ")", Suite.INDEX, () -> tower.ad(0, far));
        }
        Suite.refuses(tower, "ad(1, 0)", Suite.INDEX, () -> tower.ad(1, 0));
        Suite.refuses(tower, "ad(0, 1): the download has one part", Suite.INDEX, () -> tower.ad(0, 1));
        Suite.is("ad(0, 0)", -1, tower.ad(0, 0));
    }

    private static void ofCampaign() {
        Taped tower = Towers.slots(0);
        Suite.refuses(tower, "ofCampaign(0, 0) without one", Suite.INDEX, () -> tower.ofCampaign(0, 0));
        tower.campaign(0, 0, 10, 0, 4, 8, 1);
        for (int far : Suite.FAR_OUT) {
            Suite.refuses(tower, "ofCampaign(" + far + ", 3)", Suite.INDEX, () -> tower.ofCampaign(far, 3));
            Suite.refuses(tower, "ofCampaign(0, " + far + ")", Suite.ARGUMENT, () -> tower.ofCampaign(0, far));
        }
        Suite.refuses(tower, "ofCampaign(1, 0)", Suite.INDEX, () -> tower.ofCampaign(1, 0));
        Suite.refuses(tower, "ofCampaign(0, 3)", Suite.ARGUMENT, () -> tower.ofCampaign(0, 3));
        tower.ask(0, 0);
        tower.ask(1, 0);
        tower.load(1, 0, 10);
        Suite.is("of the campaign", " 2 2 1", Suite.campaign(tower, 0));
        tower.pass(4);
        Suite.is("out of its hours", " 2 0 1", Suite.campaign(tower, 0));
    }

    private static void heard() {
        Taped tower = new Taped();
        tower.talk(3);
        tower.slot(0);
        tower.talk(3);
        tower.slot(1);
        tower.item(0, 0);
        tower.campaign(0, 0, 10, 0, 1, 9, 3);
        tower.campaign(1, 1, 5, 0, 1, 9, 3);
        tower.ask(0, 0);
        tower.ask(1, 0);
        tower.load(0, 0, 12);
        tower.load(0, 16, 21);
        Suite.is("a second of the ad is not loaded", " 2 9 0", Suite.campaign(tower, 0));
        Suite.is("all of the other one is", " 2 9 1", Suite.campaign(tower, 1));
        tower.load(0, 12, 13);
        Suite.is("all seconds of the ad are loaded", " 2 9 1", Suite.campaign(tower, 0));
        tower.load(1, 4, 13);
        Suite.is("the first second is not loaded", " 2 9 1", Suite.campaign(tower, 0));
        tower.load(1, 3, 4);
        Suite.is("ads of two downloads", " 2 9 2", Suite.campaign(tower, 0));
        tower.bot(0, true);
        Suite.is("a bot hears nothing", " 2 9 1", Suite.campaign(tower, 0));
        Suite.is("nor another ad", " 2 9 0", Suite.campaign(tower, 1));
        tower.bot(0, false);
        Suite.is("no bot now", " 2 9 2", Suite.campaign(tower, 0));
        tower.withdraw(0);
        Suite.is("whatever became of the item", " 2 9 2", Suite.campaign(tower, 0));
    }
}
