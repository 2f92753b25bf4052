/**
 * The edges that the terms name of letters: whether one is written, what is in it, which are lost, who hears
 * them and in what order (3., b. and c.). Each test begins with the words it tests.
 */
final class EdgesOfLettersTest {
    private static final Check CHECK = new Check();
    private static final int KIND = 3;

    public static void main(String[] args) {
        ifThereIsAnything();
        withAllItHasNow();
        claimsWithClaimsLeft();
        noClaimOfTheTickBefore();
        byesOnce();
        allBeingWritten();
        lettersInTheLatestTick();
        whoLeavesWritesByesAlone();
        whoLeavesWritesToItsHome();
        keepersWhoLeaveTellNothing();
        whoLeavesIsGoneThen();
        whoLeavesWithoutByes();
        theNextLettersAreLost();
        losingAnew();
        theLastLetterOfOneGone();
        deafToTheNextLetters();
        deafAnew();
        lostOnesDeafenNobody();
        eachOtherHost();
        onThatNetAndAwake();
        awakeAsItsTurnComes();
        asleepAsItsTurnCame();
        asksBeforeByes();
        asksBeforeTellings();
        claimsBeforeTellings();
        byesBeforeTellings();
        claimsByService();
        tellingsByService();
        CHECK.end("EdgesOfLettersTest");
    }

    // b. "writes one to its home NET with all it has now, if there is anything"
    private static void ifThereIsAnything() {
        WhoIsThere x = Houses.ofRanks(5, 5);
        x.tick(50);
        CHECK.due("nothing to write", x.count(3), 0);
        CHECK.due("none in the latest tick", x.count(9), 0);
        CHECK.due("none of host 0", x.look(0, 4), 0);
        x.lie(0, KIND, 1, 0, 200);
        x.tick(1);
        CHECK.due("a telling", x.look(0, 4), 1);
        x.tick(50);
        CHECK.due("nothing is due", x.look(0, 4), 1);
        CHECK.due("the other one wrote nothing", x.look(1, 4), 0);
        CHECK.due("one letter in all", x.count(3), 1);
    }

    // b. "Each HOST awake, by number, writes one": an ask, a claim, a bye and a telling go in one letter.
    private static void withAllItHasNow() {
        WhoIsThere x = Houses.ofRanks(5, 5);
        x.lie(0, KIND, 1, 0, 200);
        x.lie(1, 4, 2, 0, 200);
        x.deaf(0, 1);
        x.tick(4);
        x.drop(0);
        x.lie(0, KIND, 3, 0, 200);
        x.offer(0, KIND, 4, 0, 200);
        x.ask(0, 4, 0);
        x.tick(1);
        CHECK.due("one letter", x.count(9), 1);
        CHECK.due("its second one", x.look(0, 4), 2);
        CHECK.due("the ask is heard", x.look(1, 8), 1);
        CHECK.due("the bye is heard", x.record(1, 0, 0), -1);
        CHECK.due("the telling is heard", x.record(1, 2, 0), 3);
        CHECK.due("the claim is written", x.service(3, 2), 2);
    }

    // b. "CLAIMS: of its own CLAIMING SERVICES with CLAIMS left (one less then)"
    private static void claimsWithClaimsLeft() {
        WhoIsThere x = Houses.ofRanks(5, 5);
        x.offer(0, KIND, 1, 0, 200);
        x.tick(3);
        CHECK.due("three letters", x.look(0, 4), 3);
        CHECK.due("none left", x.service(0, 2), 0);
        x.sleep(0, 1);
        x.wake(0);
        x.tick(1);
        CHECK.due("the fourth tells", x.look(1, 5), 1);
        x.tick(3);
        CHECK.due("no fifth", x.look(0, 4), 4);
    }

    // b. "with all it has now": no claim that was written before
    private static void noClaimOfTheTickBefore() {
        WhoIsThere x = Houses.ofRanks(9, 5);
        x.offer(0, KIND, 5, 0, 200);
        x.tick(1);
        x.drop(0);
        x.offer(0, KIND, 7, 0, 200);
        x.offer(1, KIND, 5, 0, 200);
        x.tick(1);
        CHECK.due("name 5 is claimed no longer by the stronger", x.service(2, 7), 0);
        CHECK.due("name 7 is", x.service(1, 2), 2);
    }

    // b. "BYES of its own"
    private static void byesOnce() {
        WhoIsThere x = Houses.ofRanks(5, 5);
        x.lie(0, KIND, 1, 0, 200);
        x.lie(0, KIND, 2, 0, 200);
        x.tick(1);
        x.drop(1);
        x.tick(1);
        CHECK.due("one letter", x.look(0, 4), 2);
        CHECK.due("it has no bye any more", x.service(1, 6), 0);
        CHECK.due("its record is gone", x.record(1, 1, 0), -1);
        CHECK.due("that of the other is not", x.record(1, 0, 0), 1);
        x.tick(5);
        CHECK.due("and no more", x.look(0, 4), 2);
        CHECK.due("the other host wrote none", x.look(1, 4), 0);
    }

    // c. "All being written, LETTERS are heard": two hosts that ask the same in one tick do not silence each other.
    private static void allBeingWritten() {
        WhoIsThere x = Houses.ofRanks(5, 5, 5, 5, 5, 5);
        x.tick(1);
        x.ask(1, KIND, 0);
        x.ask(5, KIND, 0);
        x.tick(1);
        CHECK.due("both are due at 1", x.count(9), 2);
        CHECK.due("both were written", x.look(1, 4) + x.look(5, 4), 2);
    }

    // 24: "9 LETTERS in the latest tick"
    private static void lettersInTheLatestTick() {
        WhoIsThere x = Houses.ofRanks(5, 5, 5);
        x.lie(0, KIND, 1, 0, 200);
        x.lie(1, KIND, 2, 0, 4);
        x.tick(1);
        CHECK.due("at 0", x.count(9), 2);
        x.tick(1);
        CHECK.due("at 1", x.count(9), 0);
        x.tick(1);
        CHECK.due("at 2", x.count(9), 1);
        x.tick(0);
        CHECK.due("a refused tick is none", x.count(9), 1);
        x.tick(2);
        CHECK.due("of two ticks the latest", x.count(9), 1);
        x.tick(3);
        CHECK.due("of three ticks the latest", x.count(9), 0);
        CHECK.due("in all", x.count(3), 5);
    }

    // b. "A HOST that LEAVES writes BYES alone": not the ask that is due
    private static void whoLeavesWritesByesAlone() {
        for (boolean leaves : new boolean[] {false, true}) {
            WhoIsThere x = Houses.ofRanks(5, 5);
            x.deaf(0, 1);
            x.lie(1, 4, 8, 0, 200);
            x.tick(1);
            x.lie(0, KIND, 1, 0, 200);
            x.tick(3);
            x.ask(0, 4, 0);
            x.drop(1);
            if (leaves) {
                x.leave(0);
            }
            CHECK.due("a bye waits", x.service(1, 6), 1);
            x.tick(1);
            CHECK.due("one letter", x.look(0, 4), 2);
            CHECK.due("the bye is heard", x.look(1, 5), 0);
            CHECK.due("and was written", x.service(1, 6), 0);
            CHECK.due("the ask is heard of one that stays", x.look(1, 8), leaves ? 0 : 1);
        }
    }

    // b. "writes one to its home NET", of one that leaves, too
    private static void whoLeavesWritesToItsHome() {
        for (int net = 0; net <= 3; net++) {
            WhoIsThere x = Houses.ofNets(0, 1, 2, 3, net, net);
            x.lie(4, KIND, 41, 0, 200);
            x.tick(1);
            CHECK.due("believed on net " + net, x.record(5, 0, 0), 41);
            x.leave(4);
            x.tick(1);
            CHECK.due("its bye is heard on net " + net, x.look(5, 5) + x.look(net, 5), 0);
        }
    }

    // The same, of a KEEPER with an ANSWER that is due
    private static void keepersWhoLeaveTellNothing() {
        WhoIsThere x = Houses.ofRanks(5, 5, 5);
        x.deaf(2, 1);
        x.lie(0, KIND, 1, 0, 200);
        x.tick(2);
        x.keeper(1, true);
        x.ask(2, KIND, 0);
        x.tick(4);
        CHECK.due("an answer is due at 6", x.look(1, 8), 1);
        x.leave(1);
        x.tick(1);
        CHECK.due("not written", x.look(1, 4), 0);
        CHECK.due("not heard", x.look(2, 5), 0);
        CHECK.due("gone", x.look(1, 8), 0);
    }

    // b. "and is gone then": before the letters are heard
    private static void whoLeavesIsGoneThen() {
        WhoIsThere x = Houses.ofRanks(5, 5, 5);
        x.lie(1, KIND, 1, 0, 200);
        x.deaf(2, 1);
        x.tick(2);
        x.keeper(0, true);
        x.lie(1, KIND, 99, 0, 200);
        x.ask(2, KIND, 0);
        x.leave(0);
        x.tick(1);
        CHECK.due("it hears no lie; host 2 does", x.count(6), 1);
        CHECK.due("it is no keeper that answers: the owner does, for both", x.look(1, 8), 2);
        CHECK.due("gone", x.look(0, 0), 0);
        CHECK.due("without answers", x.look(0, 8), 0);
    }

    // b. "if there is anything", of one that leaves
    private static void whoLeavesWithoutByes() {
        WhoIsThere x = Houses.ofRanks(5, 5);
        x.offer(0, KIND, 1, 0, 200);
        x.tick(3);
        x.leave(0);
        CHECK.due("no bye of one that only claimed", x.service(0, 6), 0);
        x.tick(1);
        CHECK.due("no letter", x.count(9), 0);
        CHECK.due("gone", x.look(0, 0), 0);
    }

    /** Makes a host tell its service at each tick, so many times. */
    private static void tellTimes(WhoIsThere x, int service, int times) {
        for (int i = 0; i < times; i++) {
            x.change(service, i % 256);
            x.tick(1);
        }
    }

    // 14: "The next n (0 to 100) LETTERS of a HOST .. are LOST"; c. "it is LOST (one less), and nobody hears it"
    private static void theNextLettersAreLost() {
        for (int n : new int[] {0, 1, 2, 99, 100}) {
            WhoIsThere x = Houses.ofRanks(5, 5);
            x.lie(0, KIND, 1, 0, 200);
            x.lose(0, n);
            x.tick(3);
            tellTimes(x, 0, Math.max(0, n - 1));
            CHECK.due("lost of " + n, x.count(4), n);
            CHECK.due("not heard, of " + n, x.look(1, 5), n == 0 ? 1 : 0);
            tellTimes(x, 0, 1);
            CHECK.due("no more lost than " + n, x.count(4), n);
            CHECK.due("heard behind " + n, x.look(1, 5), 1);
            CHECK.due("all were written", x.count(3), x.look(0, 4));
        }
    }

    // 14: a second call counts anew.
    private static void losingAnew() {
        WhoIsThere x = Houses.ofRanks(5, 5);
        x.lie(0, KIND, 1, 0, 200);
        x.lose(0, 100);
        x.lose(0, 2);
        tellTimes(x, 0, 1);
        x.lose(0, 1);
        tellTimes(x, 0, 3);
        CHECK.due("one, then one", x.count(4), 2);
        x.lose(0, 100);
        x.lose(0, 0);
        tellTimes(x, 0, 1);
        CHECK.due("none", x.count(4), 2);
        x.lose(1, 1);
        tellTimes(x, 0, 1);
        CHECK.due("none of another host", x.count(4), 2);
    }

    // 14: "(a gone one, too)"; c. "if its HOST has LETTERS to LOSE": the host may be gone by then.
    private static void theLastLetterOfOneGone() {
        WhoIsThere x = Houses.ofRanks(5, 5);
        x.lie(0, KIND, 1, 0, 200);
        x.tick(1);
        x.leave(0);
        CHECK.due("of one that leaves", x.lose(0, 1), true);
        x.tick(1);
        CHECK.due("its byes are lost", x.count(4), 1);
        CHECK.due("still believed", x.record(1, 0, 0), 1);
        CHECK.due("of a gone one", x.lose(0, 100), true);
        CHECK.due("of a gone one", x.lose(0, 0), true);
        CHECK.due("but not so many", x.lose(0, 101), false);
        x.tick(3);
        CHECK.due("there are none", x.count(4), 1);
    }

    // 15: "A HOST is DEAF to the next n (0 to 100) LETTERS"; c. "one that is DEAF to some does not (one less)"
    private static void deafToTheNextLetters() {
        for (int n : new int[] {0, 1, 2, 99, 100}) {
            WhoIsThere x = Houses.ofRanks(5, 5, 5);
            x.lie(0, KIND, 1, 0, 200);
            x.deaf(1, n);
            x.tick(3);
            tellTimes(x, 0, Math.max(0, n - 1));
            CHECK.due("not heard, of " + n, x.look(1, 5), n == 0 ? 1 : 0);
            CHECK.due("the other one heard", x.look(2, 5), 1);
            tellTimes(x, 0, 1);
            CHECK.due("heard behind " + n, x.look(1, 5), 1);
            CHECK.due("none was lost", x.count(4), 0);
        }
    }

    // 15: a second call counts anew; "false likewise": a gone one may be deaf, too.
    private static void deafAnew() {
        WhoIsThere x = Houses.ofRanks(5, 5);
        x.lie(0, KIND, 1, 0, 200);
        x.deaf(1, 100);
        x.deaf(1, 1);
        tellTimes(x, 0, 1);
        CHECK.due("deaf to one", x.look(1, 5), 0);
        tellTimes(x, 0, 1);
        CHECK.due("not to two", x.look(1, 5), 1);
        x.deaf(1, 100);
        x.deaf(1, 0);
        x.change(0, 7);
        x.tick(1);
        CHECK.due("deaf to none", x.record(1, 0, 1), 7);
        x.fall(1);
        CHECK.due("a gone one", x.deaf(1, 100), true);
        CHECK.due("a gone one", x.deaf(1, 0), true);
        CHECK.due("but not to so many", x.deaf(1, 101), false);
    }

    // c. "nobody hears it; else": who is deaf stays so.
    private static void lostOnesDeafenNobody() {
        WhoIsThere x = Houses.ofRanks(5, 5);
        x.lie(0, KIND, 1, 0, 200);
        x.lose(0, 1);
        x.deaf(1, 1);
        tellTimes(x, 0, 1);
        CHECK.due("the first one is lost", x.count(4), 1);
        tellTimes(x, 0, 1);
        CHECK.due("it is deaf to the second", x.look(1, 5), 0);
        tellTimes(x, 0, 1);
        CHECK.due("it hears the third", x.look(1, 5), 1);
    }

    // c. "each other HOST": its own letters are none that a deaf host would hear.
    private static void eachOtherHost() {
        WhoIsThere x = Houses.ofRanks(5, 5);
        x.lie(0, KIND, 1, 0, 200);
        x.deaf(0, 1);
        tellTimes(x, 0, 3);
        x.lie(1, KIND, 2, 0, 200);
        x.tick(1);
        CHECK.due("it is deaf to the first of another", x.look(0, 5), 0);
        tellTimes(x, 1, 1);
        CHECK.due("and hears the second", x.look(0, 5), 1);
    }

    // c. "HOST on that NET that is awake": who would not hear a letter does not become less deaf by it.
    private static void onThatNetAndAwake() {
        WhoIsThere x = Houses.ofNets(0, 1, 0, 0);
        x.lie(0, KIND, 1, 0, 200);
        x.deaf(1, 1);
        x.deaf(2, 1);
        x.sleep(2, 3);
        tellTimes(x, 0, 2);
        CHECK.due("on another net", x.look(1, 5), 0);
        CHECK.due("asleep", x.look(2, 5), 0);
        CHECK.due("on that net and awake", x.look(3, 5), 1);
        x.join(0, 1);
        x.wake(2);
        tellTimes(x, 0, 1);
        CHECK.due("deaf to the first one there", x.look(1, 5), 0);
        CHECK.due("deaf to the first one awake", x.look(2, 5), 0);
        tellTimes(x, 0, 1);
        CHECK.due("it hears the second there", x.look(1, 5), 1);
        CHECK.due("it hears the second awake", x.look(2, 5), 1);
    }

    /** A sleeper and its proxy, as a stronger host, 2, comes to tell of the sleeper's name, and host 3 of another. */
    private static WhoIsThere sleeperMustYield(int sleeper, int proxy) {
        WhoIsThere x = new WhoIsThere();
        x.host(0, 1, 9, 5);
        x.host(0, 1, 9, 5);
        x.host(1, 1, 9, 9);
        x.host(0, 1, 9, 5);
        x.offer(sleeper, KIND, 1, 0, 40);
        x.offer(2, KIND, 1, 0, 40);
        x.tick(4);
        x.sleep(sleeper, proxy);
        x.join(0, 1);
        x.lie(3, KIND, 5, 0, 40);
        x.tick(1);
        CHECK.due("it yields", x.service(0, 7), 1);
        CHECK.due("and is awake", x.look(sleeper, 0), 2);
        CHECK.due("woken", x.count(8), 1);
        CHECK.due("the proxy heard both", x.record(proxy, 1, 0) + x.record(proxy, 2, 0), 6);
        CHECK.due("the next letter is heard by one who woke", x.record(sleeper, 2, 0), 5);
        return x;
    }

    // c. "awake as its turn comes", of one whose turn is still to come; 2. "awake from then on (WOKEN)"
    private static void awakeAsItsTurnComes() {
        CHECK.due("it hears what woke it", sleeperMustYield(1, 0).record(1, 1, 0), 1);
    }

    // c. "awake as its turn comes", of one whose turn has been
    private static void asleepAsItsTurnCame() {
        CHECK.due("it did not hear what woke it", sleeperMustYield(0, 1).record(0, 1, 0), -1);
    }

    // c. "ASKS by KIND, CLAIMS, BYES, TELLINGS by SERVICE": a keeper answers an ask by a record that ends by a bye.
    private static void asksBeforeByes() {
        WhoIsThere x = Houses.ofRanks(5, 5);
        x.keeper(1, true);
        x.lie(0, KIND, 1, 0, 200);
        x.tick(4);
        x.drop(0);
        x.ask(0, KIND, 0);
        x.tick(1);
        CHECK.due("one letter", x.count(9), 1);
        CHECK.due("the record is gone", x.look(1, 5), 0);
        CHECK.due("the answer is not", x.look(1, 8), 1);
    }

    // c. A keeper has no record yet, as it hears the ask, that has the marks told behind it.
    private static void asksBeforeTellings() {
        WhoIsThere x = Houses.ofRanks(5, 5);
        x.keeper(1, true);
        x.lie(0, KIND, 1, 0, 200);
        x.tick(4);
        x.change(0, 1);
        x.ask(0, KIND, 1);
        x.tick(1);
        CHECK.due("one letter", x.count(9), 1);
        CHECK.due("told anew", x.record(1, 0, 1), 1);
        CHECK.due("too late for an answer", x.look(1, 8), 0);
    }

    // c. A name that is left for a claim runs into the telling behind it.
    private static void claimsBeforeTellings() {
        WhoIsThere x = Houses.ofRanks(9, 5);
        x.lie(0, KIND, 6, 0, 200);
        x.offer(0, KIND, 5, 0, 200);
        x.offer(1, KIND, 5, 0, 200);
        x.tick(1);
        CHECK.due("it yields to the claim, then to the telling", x.service(2, 7), 2);
        CHECK.due("its name", x.service(2, 1), 7);
    }

    // c. A bridge writes a bye and a telling of one service: it is believed again.
    private static void byesBeforeTellings() {
        WhoIsThere x = Houses.ofNets(0, 0, 0, 1, 0);
        x.bridge(2, 1, Houses.ALL_KINDS);
        x.deaf(4, 1);
        x.lie(0, KIND, 1, 0, 200);
        x.tick(4);
        CHECK.due("believed over the bridge", x.record(3, 0, 3), 199);
        x.keeper(1, true);
        x.ask(4, KIND, 0);
        x.tick(2);
        x.drop(0);
        x.tick(1);
        CHECK.due("the owner's bye and the keeper's telling at 6", x.count(9), 2);
        x.tick(1);
        CHECK.due("one letter at 7", x.count(9), 1);
        CHECK.due("as the keeper told, one less", x.record(3, 0, 3), 193);
    }

    // c. "CLAIMS .. by SERVICE"
    private static void claimsByService() {
        CHECK.due("5, then 6", nameLeft(false, 5, 6), 7);
        CHECK.due("6, then 5", nameLeft(false, 6, 5), 6);
    }

    // c. "TELLINGS by SERVICE"
    private static void tellingsByService() {
        CHECK.due("5, then 6", nameLeft(true, 5, 6), 7);
        CHECK.due("6, then 5", nameLeft(true, 6, 5), 6);
    }

    /** The name that a claimer of 5 ends up with as a stronger host claims or tells two names in one letter. */
    private static int nameLeft(boolean told, int first, int second) {
        WhoIsThere x = Houses.ofRanks(9, 5);
        for (int name : new int[] {first, second}) {
            if (told) {
                x.lie(0, KIND, name, 0, 200);
            } else {
                x.offer(0, KIND, name, 0, 200);
            }
        }
        x.offer(1, KIND, 5, 0, 200);
        x.tick(1);
        return x.service(2, 1);
    }
}
