/**
 * What is empty and what is full: a house with nothing in it, as many hosts, services, records, asks, answers and
 * pairs as there can be, and the first one that is too many. Each test begins with the words it tests.
 */
final class FullTest {
    private static final Check CHECK = new Check();
    private static final int KIND = 3;
    private static final int ALL = Houses.ALL_KINDS;

    public static void main(String[] args) {
        noHostsNoServices();
        emptyHousesTick();
        twelveHosts();
        goneHostsAreThere();
        thirtyTwoServices();
        thirtyTwoClaims();
        goneServicesToo();
        fourThatAreNotGone();
        fourThatAreGone();
        theEndsAreToldAsTheyAre();
        aFullStore();
        foundByName();
        anAskOfEachKind();
        anAnswerForEachService();
        aKeeperOfAll();
        twelveOfOneName();
        aBridgeFullOfLetters();
        aBridgeFullOfClaims();
        aBridgeFullOfTellingsAndByes();
        ticksAtOnceOrOneByOne();
        theLastTick();
        fiveHundredAndTwelveCalls();
        CHECK.end("FullTest");
    }

    // 1: "No HOSTS, no SERVICES; TICK 0"
    private static void noHostsNoServices() {
        WhoIsThere x = new WhoIsThere();
        for (int what = 0; what <= 10; what++) {
            CHECK.due("count " + what, x.count(what), 0);
        }
        for (int net = 0; net <= 3; net++) {
            CHECK.due("twice " + net, x.twice(net), 0);
        }
        CHECK.due("host 0", x.look(0, 0), -1);
        CHECK.due("service 0", x.service(0, 0), -1);
        CHECK.due("the first host is 0", x.host(0, 1, 1, 0), 0);
        CHECK.due("the first service is 0", x.offer(0, 0, 1, 0, 4), 0);
        CHECK.due("another house is empty still", new WhoIsThere().count(1), 0);
    }

    // 17: in a house where nobody is
    private static void emptyHousesTick() {
        WhoIsThere x = new WhoIsThere();
        CHECK.due("50 ticks", x.tick(50), 50);
        CHECK.due("one more", x.tick(1), 51);
        CHECK.due("no letters", x.count(3), 0);
        CHECK.due("a host may come later", x.host(0, 1, 1, 0), 0);
        x.lie(0, KIND, 1, 0, 4);
        CHECK.due("renewal now", x.service(0, 5), 51);
    }

    // WHO: "HOSTS, at most 12, from 0 on"; 2: "or 12 are there"
    private static void twelveHosts() {
        WhoIsThere x = new WhoIsThere();
        for (int h = 0; h < 12; h++) {
            CHECK.due("hosts before", x.count(1), h);
            CHECK.due("beyond", x.look(h, 0), -1);
            CHECK.due("host " + h, x.host(h % 4, 1, 250, 1000), h);
            CHECK.due("awake", x.look(h, 0), 2);
            CHECK.due("at home", x.look(h, 1), h % 4);
        }
        for (int net = 0; net <= 3; net++) {
            CHECK.due("a 13th on net " + net, x.host(net, 1, 250, 0), -1);
        }
        CHECK.due("hosts", x.count(1), 12);
        CHECK.due("beyond", x.look(12, 0), -1);
    }

    // WHO: "awake .., asleep, or gone": a gone host is there.
    private static void goneHostsAreThere() {
        WhoIsThere x = Houses.ofNets(new int[12]);
        for (int h = 0; h < 6; h++) {
            x.fall(h);
            x.leave(h + 6);
        }
        x.tick(1);
        for (int h = 0; h < 12; h++) {
            CHECK.due("gone", x.look(h, 0), 0);
        }
        CHECK.due("a 13th", x.host(0, 1, 2, 0), -1);
        CHECK.due("hosts", x.count(1), 12);
        CHECK.due("they may lose letters", x.lose(11, 100), true);
    }

    // WHO: "SERVICES, at most 32 .. from 0 on"; 3: "32 are there"
    private static void thirtyTwoServices() {
        WhoIsThere x = Houses.full();
        CHECK.due("services", x.count(2), 32);
        for (int s = 0; s < 32; s++) {
            CHECK.due("host of " + s, x.service(s, 4), s / 4);
        }
        CHECK.due("a 33rd of a host that has none", x.offer(8, KIND, 81, 0, 4), -1);
        CHECK.due("a 33rd, false", x.lie(8, KIND, 81, 0, 4), -1);
        CHECK.due("beyond", x.service(32, 0), -1);
        x.tick(1);
        for (int s = 0; s < 32; s++) {
            CHECK.due("each is told: " + s, x.service(s, 5), 20);
        }
        CHECK.due("the last may be dropped", x.drop(31), true);
        CHECK.due("the last may not be dropped twice", x.drop(31), false);
    }

    // b. "CLAIMS: of its own CLAIMING SERVICES": 32 at once are claimed, held and told.
    private static void thirtyTwoClaims() {
        WhoIsThere x = Houses.ofNets(new int[12]);
        for (int s = 0; s < 32; s++) {
            CHECK.due("service " + s, x.offer(s / 4, 15, 10 * (s / 4) + 1 + s % 4, 0, 200), s);
        }
        for (int left = 2; left >= 0; left--) {
            x.tick(1);
            CHECK.due("eight letters", x.count(9), 8);
            CHECK.due("claims of the first", x.service(0, 2), left);
            CHECK.due("claims of the last", x.service(31, 2), left);
        }
        x.tick(1);
        for (int s = 0; s < 32; s++) {
            CHECK.due("held: " + s, x.service(s, 0), 2);
        }
        CHECK.due("none yielded", x.count(5), 0);
        CHECK.due("all were told", x.look(11, 5), 32);
    }

    // WHO: "at most 32 (gone ones too)"
    private static void goneServicesToo() {
        WhoIsThere x = Houses.ofNets(0, 0);
        for (int s = 0; s < 32; s++) {
            CHECK.due("service " + s, s % 2 == 0 ? x.offer(0, KIND, 1, 0, 4) : x.lie(0, KIND, 1, 0, 4), s);
            CHECK.due("dropped " + s, x.drop(s), true);
        }
        CHECK.due("none is there that is not gone", x.offer(0, KIND, 1, 0, 4), -1);
        CHECK.due("nor for another host", x.offer(1, KIND, 11, 0, 4), -1);
        CHECK.due("nor a false one", x.lie(1, KIND, 11, 0, 4), -1);
        CHECK.due("services", x.count(2), 32);
        x.tick(1);
        CHECK.due("sixteen byes in a letter", x.count(3), 1);
        CHECK.due("gone with them", x.service(31, 6), 0);
    }

    // WHO: "each of a HOST (at most 4 there that are not gone)"; 3: "has 4"
    private static void fourThatAreNotGone() {
        WhoIsThere x = Houses.ofNets(0, 0);
        for (int s = 0; s < 4; s++) {
            CHECK.due("service " + s, s < 2 ? x.offer(0, KIND, 1 + s, 0, 4) : x.lie(0, KIND, 1 + s, 0, 4), s);
        }
        CHECK.due("a fifth", x.offer(0, KIND, 5, 0, 4), -1);
        CHECK.due("a fifth, false", x.lie(0, KIND, 5, 0, 4), -1);
        CHECK.due("another host may", x.offer(1, KIND, 11, 0, 4), 4);
        x.tick(5);
        CHECK.due("held ones count as well", x.offer(0, KIND, 5, 0, 4), -1);
    }

    // The same: "that are not gone"
    private static void fourThatAreGone() {
        WhoIsThere x = Houses.ofNets(0);
        for (int s = 0; s < 4; s++) {
            x.lie(0, KIND, 1 + s, 0, 4);
        }
        for (int s = 0; s < 4; s++) {
            x.drop(s);
            CHECK.due("in the place of a gone one", x.offer(0, KIND, 1 + s, 0, 4), 4 + s);
            CHECK.due("but no more", x.offer(0, KIND, 9, 0, 4), -1);
        }
    }

    // WHO: "a KIND (0 to 15), a NAME, MARKS (0 to 255, bits), a LIFE (4 to 200)": the ends are believed as told.
    private static void theEndsAreToldAsTheyAre() {
        int[] least = {0, 1, 0, 4};
        int[] most = {15, 250, 255, 200};
        for (int[] end : new int[][] {least, most}) {
            WhoIsThere x = new WhoIsThere();
            x.host(3, end[1], end[1], 1000);
            x.host(3, 1, 250, 0);
            CHECK.due("offered", x.offer(0, end[0], end[1], end[2], end[3]), 0);
            x.tick(4);
            CHECK.due("name", x.record(1, 0, 0), end[1]);
            CHECK.due("marks", x.record(1, 0, 1), end[2]);
            CHECK.due("left", x.record(1, 0, 2), end[3]);
            CHECK.due("life", x.record(1, 0, 3), end[3]);
            CHECK.due("found by kind and marks", x.find(1, end[0], end[2], 0), 0);
            CHECK.due("not by another kind", x.find(1, 15 - end[0], end[2], 0), -1);
            CHECK.due("by all marks, or not", x.find(1, end[0], 255, 0), end[2] == 255 ? 0 : -1);
        }
    }

    // WHO: "THE STORE of a HOST has for each SERVICE of another HOST one RECORD at most"
    private static void aFullStore() {
        WhoIsThere x = Houses.full();
        CHECK.due("empty", x.look(8, 5), 0);
        x.tick(1);
        CHECK.due("of all", x.look(8, 5), 32);
        CHECK.due("of all but its own", x.look(7, 5), 28);
        for (int s = 0; s < 32; s++) {
            CHECK.due("record of " + s, x.record(8, s, 3), 40);
            CHECK.due("none of its own: " + s, x.record(7, s, 3), s / 4 == 7 ? -1 : 40);
        }
        x.tick(20);
        CHECK.due("still of all", x.look(8, 5), 32);
        x.fall(8);
        CHECK.due("empty, being gone", x.look(8, 5), 0);
        for (int h = 0; h < 8; h++) {
            x.lose(h, 100);
        }
        x.tick(39);
        CHECK.due("told at 20, in the last tick of all", x.look(9, 5), 32);
        x.tick(1);
        CHECK.due("and all are gone", x.look(9, 5), 0);
    }

    // 18: "The k-th RECORD (from 0 on) .. by NAME"
    private static void foundByName() {
        WhoIsThere x = Houses.full();
        CHECK.due("in an empty store", x.find(8, KIND, 0, 0), -1);
        x.tick(1);
        for (int k = 0; k < 32; k++) {
            CHECK.due("found at " + k, x.find(8, KIND, 255, k), k / 4 * 4 + 3 - k % 4);
        }
        CHECK.due("one too many", x.find(8, KIND, 255, 32), -1);
        CHECK.due("one before the first", x.find(8, KIND, 255, -1), -1);
        CHECK.due("the last but for its own", x.find(7, KIND, 0, 27), 24);
        CHECK.due("and none behind", x.find(7, KIND, 0, 28), -1);
    }

    // 2. "A HOST may have for each KIND an ASK"
    private static void anAskOfEachKind() {
        WhoIsThere x = Houses.ofNets(0, 0);
        for (int kind = 0; kind < 16; kind++) {
            CHECK.due("asks before", x.look(1, 7), kind);
            CHECK.due("ask " + kind, x.ask(1, kind, 255), true);
        }
        for (int kind = 0; kind < 16; kind++) {
            CHECK.due("waits " + kind, x.ask(1, kind, 0), false);
        }
        x.tick(2);
        CHECK.due("none waits", x.look(1, 7), 0);
        CHECK.due("all in one letter", x.count(3), 1);
    }

    // 2. "for each SERVICE an ANSWER"
    private static void anAnswerForEachService() {
        WhoIsThere x = Houses.full();
        x.deaf(9, 8);
        x.tick(1);
        x.ask(9, KIND, 255);
        x.tick(1);
        for (int h = 0; h < 8; h++) {
            CHECK.due("each for its own: host " + h, x.look(h, 8), 4);
        }
        CHECK.due("none of those without services", x.look(8, 8), 0);
        x.tick(4);
        CHECK.due("all were told", x.look(9, 5), 32);
        CHECK.due("no answers are left", x.look(0, 8) + x.look(7, 8), 0);
    }

    // d. "for what it speaks for and what it has RECORDS of": a keeper answers for 32 at once.
    private static void aKeeperOfAll() {
        WhoIsThere x = Houses.full();
        x.deaf(9, 8);
        x.keeper(8, true);
        x.tick(1);
        x.ask(9, KIND, 255);
        x.tick(1);
        CHECK.due("an answer for each", x.look(8, 8), 32);
        CHECK.due("none of the owners", x.look(0, 8) + x.look(7, 8), 0);
        x.tick(4);
        CHECK.due("none is left", x.look(8, 8), 0);
        CHECK.due("told in one letter", x.look(8, 4), 1);
        CHECK.due("all are believed", x.look(9, 5), 32);
        // Told at 0, ending at 41: at 5 there are 36 left.
        CHECK.due("one less than is left", x.record(9, 31, 3), 35);
    }

    // 23: "How many pairs": twelve of one name
    private static void twelveOfOneName() {
        WhoIsThere x = new WhoIsThere();
        for (int h = 0; h < 12; h++) {
            x.host(2, 7, 7, 5);
            x.deaf(h, 100);
            x.offer(h, KIND, 7, 0, 200);
        }
        x.tick(3);
        CHECK.due("all claim", x.twice(2), 0);
        x.tick(1);
        for (int held = 12; held > 0; held--) {
            CHECK.due("pairs of " + held, x.twice(2), held * (held - 1) / 2);
            x.drop(held - 1);
        }
        CHECK.due("pairs of none", x.twice(2), 0);
    }

    // d. "it carries them there": 16 asks and 32 tellings at once
    private static void aBridgeFullOfLetters() {
        WhoIsThere x = Houses.full();
        int listener = 11;
        x.join(1, 0);
        x.bridge(8, 0, ALL);
        x.bridge(9, 0, ALL);
        for (int kind = 0; kind < 16; kind++) {
            x.ask(listener, kind, 0);
        }
        x.tick(1);
        CHECK.due("32 tellings, by each bridge", x.count(10), 64);
        x.tick(3);
        CHECK.due("and 16 asks", x.count(10), 96);
        x.tick(1);
        CHECK.due("one letter for each", x.look(8, 4) + x.look(9, 4), 4);
    }

    /**
     * Hosts 2 to 9 are on net 0, and two by two they claim the same four names, 32 in all, deaf to one another.
     * Their claims go by bridge 0 to net 1 and from there, two ticks old, by bridge 1 to net 2.
     */
    private static WhoIsThere thirtyTwoClaimsOnTheirWay() {
        WhoIsThere x = new WhoIsThere();
        x.host(0, 250, 250, 5);
        x.host(1, 250, 250, 5);
        x.bridge(0, 1, ALL);
        x.bridge(1, 2, ALL);
        for (int h = 2; h < 10; h++) {
            int first = 10 * (h / 2) + 1;
            x.host(0, first, first + 3, 5);
            x.deaf(h, 100);
            for (int i = 0; i < 4; i++) {
                x.offer(h, i, first + i, 0, 200);
            }
        }
        return x;
    }

    // WHO: "SERVICES, at most 32"; d. "it carries them there": CLAIMS of all of them in one LETTER
    private static void aBridgeFullOfClaims() {
        WhoIsThere x = thirtyTwoClaimsOnTheirWay();
        x.tick(3);
        CHECK.due("32 by one bridge at 0, by both at 1 and 2", x.count(10), 160);
        CHECK.due("a letter of the second bridge", x.look(1, 4), 1);
        // The claims of tick 2 do not bear net 2: their hosts are there as those come.
        x.join(2, 0);
        x.tick(1);
        for (int h = 2; h < 10; h++) {
            CHECK.due("deaf till now: host " + h, x.look(h, 8), 0);
            x.deaf(h, 0);
        }
        x.tick(1);
        CHECK.due("claims to net 2, tellings of both bridges to net 1", x.count(9), 3);
        for (int h = 2; h < 10; h++) {
            CHECK.due("each of the four names was claimed: host " + h, x.look(h, 8), 4);
            // What is told next would make half of them yield.
            x.deaf(h, 100);
        }
        x.tick(1);
        for (int s = 0; s < 32; s++) {
            CHECK.due("each one is defended: " + s, x.service(s, 5), 105);
        }
        CHECK.due("none yielded", x.count(5), 0);
    }

    // The same: TELLINGS, and BYES, of all of them in one LETTER
    private static void aBridgeFullOfTellingsAndByes() {
        WhoIsThere x = Houses.fullOn(0, 0, 0, 0, 0, 0, 0, 0, 0, 1);
        x.bridge(8, 1, ALL);
        x.tick(2);
        CHECK.due("32 tellings", x.count(10), 32);
        CHECK.due("in one letter", x.count(9), 1);
        for (int s = 0; s < 32; s++) {
            CHECK.due("heard: " + s, x.record(9, s, 3), 39);
            CHECK.due("dropped: " + s, x.drop(s), true);
        }
        x.tick(1);
        CHECK.due("32 byes", x.count(10), 64);
        CHECK.due("not there yet", x.look(9, 5), 32);
        x.tick(1);
        CHECK.due("in one letter", x.count(9), 1);
        CHECK.due("all are heard", x.look(9, 5), 0);
    }

    // 17: "n TICKS go by"
    private static void ticksAtOnceOrOneByOne() {
        Photo.same(CHECK, "50 at once and 50 times one", FullTest::fiftyAtOnce, FullTest::fiftyTimesOne);
        Photo.same(CHECK, "50 at once, and 1 and 49", FullTest::fiftyAtOnce, FullTest::oneAndFortyNine);
    }

    private static WhoIsThere eventful() {
        WhoIsThere x = Houses.ofNets(0, 0, 1, 1, 0);
        x.bridge(4, 1, ALL);
        for (int h = 0; h < 4; h++) {
            x.offer(h, KIND, 10 * h + 1, h, 9 + h);
            x.lie(h, KIND, 10 * h + 2, h, 9 + h);
        }
        x.ask(0, KIND, 0);
        x.lose(1, 3);
        x.deaf(3, 3);
        return x;
    }

    private static WhoIsThere fiftyAtOnce() {
        WhoIsThere x = eventful();
        x.tick(50);
        return x;
    }

    private static WhoIsThere fiftyTimesOne() {
        WhoIsThere x = eventful();
        for (int i = 0; i < 50; i++) {
            x.tick(1);
        }
        return x;
    }

    private static WhoIsThere oneAndFortyNine() {
        WhoIsThere x = eventful();
        x.tick(1);
        x.tick(49);
        return x;
    }

    // 17: "or above 30000". No object comes so far within 512 calls: what it answers then is the class's own word.
    private static void theLastTick() {
        WhoIsThere x = new WhoIsThere();
        for (int i = 1; i < 600; i++) {
            x.tick(50);
        }
        CHECK.due("29950", x.count(0), 29950);
        CHECK.due("29951", x.tick(1), 29951);
        CHECK.due("above 30000", x.tick(50), -1);
        CHECK.due("none went by", x.count(0), 29951);
        CHECK.due("to 30000", x.tick(49), 30000);
        CHECK.due("beyond", x.tick(1), -1);
        CHECK.due("stays", x.count(0), 30000);
    }

    // "An object is used for at most 512 calls after it has been made": the last of them is answered as the first.
    private static void fiveHundredAndTwelveCalls() {
        WhoIsThere x = Houses.ofNets(0, 0);
        x.lie(0, KIND, 1, 255, 200);
        for (int i = 4; i <= 511; i++) {
            CHECK.due("call " + i, x.tick(50), 50 * (i - 3));
        }
        CHECK.due("call 512", x.record(1, 0, 3), 200);
    }
}
