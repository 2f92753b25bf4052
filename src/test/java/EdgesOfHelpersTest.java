/**
 * The edges that the document names of sleepers, proxies, keepers and who is gone (WHO; 3., b. and d.; promises
 * 8 to 13 and 21 to 23). Each test begins with the words it tests.
 */
final class EdgesOfHelpersTest {
    private static final Check CHECK = new Check();
    private static final int KIND = 3;
    private static final int OWNER = 0;
    private static final int ASKER = 6;

    public static void main(String[] args) {
        emptyOnceFallen();
        emptyOnceLeft();
        servicesOfOneFallen();
        servicesOfOneThatLeaves();
        sleepersAreSpokenForIfHeld();
        spokenForByTheirProxyAlone();
        proxiesOfOnesAwakeSpeakForNone();
        aProxyAsleepSpeaksForNone();
        manySleepersOfOneProxy();
        aKeeperMayBeAProxy();
        whatWaitsStays();
        leaveWakesItsOwnSleepers();
        leaveWakesNone();
        fallWakesNone();
        thePlaceOfAProxy();
        aProxyOfOneAsleep();
        oneThatHasHadServices();
        anAskThatWaits();
        reachedBySleepAndProxy();
        reachedByThatName();
        notHeldByThatName();
        reachedByOneThatLeaves();
        noSuchRecord();
        noKeeper();
        theLeastKeeperAlone();
        aKeeperOtherThanTheWriter();
        aKeeperAtHomeOnTheNet();
        aKeeperThatDoesNotHear();
        aKeeperThatKnowsNothing();
        keepersAnswerByTheRecord();
        ownersAnswerByTheService();
        allMarksAsked();
        ofRecordsForAll();
        heldOnesAlone();
        leftLessOne();
        keepersRenewNothing();
        keepersWithoutARecordAnyMore();
        pairsOfOneName();
        CHECK.end("EdgesOfHelpersTest");
    }

    /** Host 1 is a keeper with a record, an ask and an answer that wait. */
    private static WhoIsThere burdened() {
        WhoIsThere x = Houses.ofRanks(5, 5, 5);
        x.deaf(2, 1);
        x.lie(0, KIND, 1, 0, 200);
        x.tick(2);
        x.keeper(1, true);
        x.ask(2, KIND, 0);
        x.tick(1);
        x.ask(1, 5, 0);
        burden("a burden", x, 1);
        return x;
    }

    private static void burden(String when, WhoIsThere x, int due) {
        for (int what = 5; what <= 8; what++) {
            CHECK.due(when + ", what " + what, x.look(1, what), due);
        }
    }

    // WHO: "or gone (its STORE, ASKS, ANSWERS are empty then, and it is no KEEPER)"
    private static void emptyOnceFallen() {
        WhoIsThere x = burdened();
        x.fall(1);
        burden("fallen", x, 0);
        x.tick(5);
        burden("later", x, 0);
        CHECK.due("it wrote nothing", x.look(1, 4), 0);
    }

    // The same, of one that leaves: not before the next tick
    private static void emptyOnceLeft() {
        WhoIsThere x = burdened();
        x.leave(1);
        burden("leaving", x, 1);
        x.tick(1);
        burden("left", x, 0);
    }

    /** Host 0 has a gone service with a bye, a held one and a claiming one, host 1 has a gone and a held one. */
    private static WhoIsThere withServices() {
        WhoIsThere x = Houses.ofRanks(5, 5);
        x.lie(0, KIND, 1, 0, 200);
        x.lie(0, KIND, 2, 0, 200);
        x.offer(0, KIND, 3, 0, 200);
        x.lie(1, KIND, 4, 0, 200);
        x.lie(1, KIND, 5, 0, 200);
        x.tick(1);
        x.drop(0);
        x.drop(3);
        return x;
    }

    private static void statesAndByes(String when, WhoIsThere x, int[] states, int[] byes) {
        for (int s = 0; s < states.length; s++) {
            CHECK.due(when + ": state of " + s, x.service(s, 0), states[s]);
            CHECK.due(when + ": bye of " + s, x.service(s, 6), byes[s]);
        }
    }

    // 10: "and its SERVICES (none of them has a BYE any more)"
    private static void servicesOfOneFallen() {
        WhoIsThere x = withServices();
        statesAndByes("before", x, new int[] {0, 2, 1, 0, 2}, new int[] {1, 0, 0, 1, 0});
        x.fall(0);
        statesAndByes("fallen", x, new int[] {0, 0, 0, 0, 2}, new int[] {0, 0, 0, 1, 0});
        x.tick(1);
        CHECK.due("it wrote nothing", x.look(0, 4), 1);
        CHECK.due("it is believed still", x.record(1, 0, 2) + x.record(1, 1, 2), 398);
        x = withServices();
        x.fall(1);
        statesAndByes("the other one fallen", x, new int[] {0, 2, 1, 0, 0}, new int[] {1, 0, 0, 0, 0});
    }

    // 11: "its SERVICES are gone, with BYES if they were HELD"
    private static void servicesOfOneThatLeaves() {
        WhoIsThere x = withServices();
        x.leave(0);
        statesAndByes("leaving", x, new int[] {0, 0, 0, 0, 2}, new int[] {1, 1, 0, 1, 0});
        x.tick(1);
        statesAndByes("left", x, new int[] {0, 0, 0, 0, 2}, new int[] {0, 0, 0, 0, 0});
        CHECK.due("one letter more", x.look(0, 4), 2);
        CHECK.due("it is believed no longer", x.look(1, 5), 0);
    }

    /** Host 0 sleeps with a claimed or held name 4, host 1 is its proxy; the stronger host 2 tells that name. */
    private static WhoIsThere toldOfASleepersName(int ticksBefore) {
        WhoIsThere x = Houses.ofRanks(5, 5, 9);
        x.offer(0, KIND, 4, 0, 200);
        x.tick(ticksBefore);
        x.sleep(0, 1);
        x.lie(2, KIND, 4, 0, 200);
        x.tick(1);
        return x;
    }

    // WHO: "those that are HELD of HOSTS asleep whose PROXY it is"
    private static void sleepersAreSpokenForIfHeld() {
        WhoIsThere x = toldOfASleepersName(3);
        CHECK.due("claiming with no claims left: nobody speaks for it", x.count(5), 0);
        CHECK.due("nobody wakes it", x.look(0, 0), 1);
        x = toldOfASleepersName(4);
        CHECK.due("held: its proxy yields for it", x.service(0, 7), 1);
        CHECK.due("and wakes it", x.look(0, 0), 2);
        CHECK.due("one woken", x.count(8), 1);
    }

    // WHO: "whose PROXY it is"
    private static void spokenForByTheirProxyAlone() {
        WhoIsThere x = Houses.ofRanks(5, 5, 5, 1);
        x.offer(0, KIND, 4, 0, 200);
        x.tick(4);
        x.sleep(0, 1);
        x.offer(3, KIND, 4, 0, 200);
        x.tick(1);
        CHECK.due("the proxy answers the claim", x.look(1, 8), 1);
        CHECK.due("another one does not", x.look(2, 8), 0);
        CHECK.due("nor does the sleeper", x.look(0, 8), 0);
        x.tick(1);
        CHECK.due("the proxy tells", x.look(1, 4), 1);
        CHECK.due("the others do not", x.look(2, 4), 0);
        CHECK.due("nor does the sleeper", x.look(0, 4), 4);
        CHECK.due("its life", x.record(3, 0, 3), 200);
    }

    // WHO: "of HOSTS asleep": once they are awake, they speak for their own.
    private static void proxiesOfOnesAwakeSpeakForNone() {
        WhoIsThere x = Houses.ofRanks(5, 5, 5, 1);
        x.offer(0, KIND, 4, 0, 200);
        x.tick(4);
        x.sleep(0, 1);
        x.wake(0);
        x.change(0, 1);
        x.offer(3, KIND, 4, 0, 200);
        x.tick(1);
        CHECK.due("the owner renews, the claimer claims", x.count(9), 2);
        CHECK.due("the owner answers the claim", x.look(0, 8), 1);
        CHECK.due("the proxy no more", x.look(1, 8), 0);
        CHECK.due("and wrote nothing", x.look(1, 4), 0);
    }

    // WHO: "HOSTS asleep whose PROXY it is": the proxy of a proxy speaks for the proxy alone.
    private static void aProxyAsleepSpeaksForNone() {
        WhoIsThere x = Houses.ofRanks(5, 5, 5);
        x.lie(0, KIND, 1, 0, 4);
        x.lie(1, KIND, 2, 0, 4);
        x.tick(1);
        x.sleep(0, 1);
        x.sleep(1, 2);
        x.tick(2);
        CHECK.due("that of the proxy is told", x.service(1, 5), 4);
        CHECK.due("that of the first sleeper is not", x.service(0, 5), 2);
        x.wake(1);
        x.tick(1);
        CHECK.due("till the proxy is awake", x.service(0, 5), 5);
        CHECK.due("one letter of host 2", x.look(2, 4), 1);
    }

    // 8: "another one is its PROXY": one may be that of many.
    private static void manySleepersOfOneProxy() {
        WhoIsThere x = Houses.ofNets(new int[12]);
        for (int h = 0; h < 11; h++) {
            x.lie(h, KIND, 10 * h + 1, 0, 4);
        }
        x.tick(1);
        for (int h = 0; h < 11; h++) {
            CHECK.due("sleeps " + h, x.sleep(h, 11), true);
            CHECK.due("its proxy", x.look(h, 3), 11);
        }
        x.tick(2);
        CHECK.due("one letter for all", x.count(9), 1);
        for (int s = 0; s < 11; s++) {
            CHECK.due("told " + s, x.service(s, 5), 4);
        }
        CHECK.due("it leaves", x.leave(11), true);
        CHECK.due("and wakes all", x.count(8), 11);
    }

    // 8: "the first one is a KEEPER"
    private static void aKeeperMayBeAProxy() {
        WhoIsThere x = Houses.ofRanks(5, 5);
        x.keeper(1, true);
        CHECK.due("a keeper may not sleep", x.sleep(1, 0), false);
        CHECK.due("but be a proxy", x.sleep(0, 1), true);
        CHECK.due("it is one", x.look(0, 3), 1);
        CHECK.due("no keeper any more", x.keeper(1, false), true);
        x.wake(0);
        CHECK.due("it may sleep", x.sleep(1, 0), true);
    }

    // 8: "(what waits of it stays)"
    private static void whatWaitsStays() {
        WhoIsThere x = Houses.ofRanks(5, 5, 5);
        x.deaf(2, 1);
        x.lie(0, KIND, 1, 0, 200);
        x.lie(0, KIND, 2, 0, 200);
        x.offer(0, KIND, 3, 0, 200);
        x.tick(2);
        x.ask(2, KIND, 0);
        x.tick(1);
        x.drop(1);
        x.ask(0, 5, 0);
        x.sleep(0, 1);
        for (int i = 0; i < 2; i++) {
            CHECK.due("asks", x.look(0, 7), 1);
            CHECK.due("answers", x.look(0, 8), 2);
            CHECK.due("a bye", x.service(1, 6), 1);
            CHECK.due("no claims left, not held", x.service(2, 0), 1);
            CHECK.due("letters", x.look(0, 4), 3);
            x.tick(9);
        }
        x.wake(0);
        x.tick(1);
        CHECK.due("no ask", x.look(0, 7), 0);
        CHECK.due("no answer", x.look(0, 8), 0);
        CHECK.due("no bye", x.service(1, 6), 0);
        CHECK.due("held", x.service(2, 0), 2);
        CHECK.due("one letter", x.look(0, 4), 4);
    }

    // 11: "HOSTS asleep whose PROXY it is are awake (WOKEN)"
    private static void leaveWakesItsOwnSleepers() {
        WhoIsThere x = Houses.ofRanks(5, 5, 5, 5, 5);
        x.sleep(0, 2);
        x.sleep(1, 3);
        x.sleep(4, 2);
        x.wake(4);
        x.leave(2);
        CHECK.due("its sleeper is awake", x.look(0, 0), 2);
        CHECK.due("that of another is not", x.look(1, 0), 1);
        CHECK.due("one that woke before is not woken", x.count(8), 1);
        x.sleep(4, 0);
        x.leave(0);
        CHECK.due("the last host is awake", x.look(4, 0), 2);
        CHECK.due("two woken", x.count(8), 2);
    }

    // 11: none asleep, and one whose sleeper is gone
    private static void leaveWakesNone() {
        WhoIsThere x = Houses.ofRanks(5, 5, 5);
        x.leave(0);
        CHECK.due("none asleep", x.count(8), 0);
        x.sleep(1, 2);
        x.fall(1);
        x.leave(2);
        CHECK.due("a gone one stays gone", x.look(1, 0), 0);
        CHECK.due("none woken", x.count(8), 0);
    }

    // 10: "gone at once, without a word"
    private static void fallWakesNone() {
        WhoIsThere x = Houses.ofRanks(5, 5);
        x.sleep(0, 1);
        x.fall(1);
        CHECK.due("still asleep", x.look(0, 0), 1);
        CHECK.due("none woken", x.count(8), 0);
        x.tick(5);
        CHECK.due("no letters", x.count(3), 0);
        CHECK.due("till it is waked", x.wake(0), true);
        CHECK.due("that is no woken one", x.count(8), 0);
    }

    // 21: "its PROXY if it is asleep (NONE: not asleep, or that is not awake)"
    private static void thePlaceOfAProxy() {
        WhoIsThere x = Houses.ofRanks(5, 5, 5);
        CHECK.due("never asleep", x.look(0, 3), -1);
        x.sleep(0, 1);
        CHECK.due("asleep", x.look(0, 3), 1);
        CHECK.due("the proxy has none", x.look(1, 3), -1);
        x.sleep(1, 2);
        CHECK.due("the proxy is asleep", x.look(0, 3), -1);
        CHECK.due("and has one", x.look(1, 3), 2);
        x.leave(2);
        CHECK.due("the proxy is awake", x.look(0, 3), 1);
        CHECK.due("and has none", x.look(1, 3), -1);
        x.wake(0);
        CHECK.due("awake, as the proxy is", x.look(0, 3), -1);
        x.sleep(0, 1);
        CHECK.due("asleep again", x.look(0, 3), 1);
        x.fall(1);
        CHECK.due("the proxy is gone", x.look(0, 3), -1);
        x.fall(0);
        CHECK.due("gone", x.look(0, 3), -1);
    }

    // 13: "is a PROXY of one asleep"
    private static void aProxyOfOneAsleep() {
        for (int way = 0; way < 3; way++) {
            WhoIsThere x = Houses.ofRanks(5, 5);
            x.sleep(0, 1);
            CHECK.due("a proxy", x.bridge(1, 1, 1), false);
            if (way == 0) {
                x.wake(0);
            } else if (way == 1) {
                x.fall(0);
            } else {
                x.wake(0);
                x.leave(0);
            }
            CHECK.due("of none asleep, way " + way, x.bridge(1, 1, 1), true);
        }
        WhoIsThere x = Houses.ofRanks(5, 5, 5, 5);
        x.sleep(3, 1);
        CHECK.due("of the last one", x.bridge(1, 1, 1), false);
        CHECK.due("another one is no proxy", x.bridge(0, 1, 1), true);
    }

    // 13: "has had SERVICES"
    private static void oneThatHasHadServices() {
        for (int host = 0; host < 3; host++) {
            for (boolean held : new boolean[] {false, true}) {
                WhoIsThere x = Houses.ofRanks(5, 5, 5);
                int only = held ? x.lie(host, KIND, 1, 0, 200) : x.offer(host, KIND, 1, 0, 200);
                CHECK.due("it has one", x.bridge(host, 1, 1), false);
                x.drop(only);
                x.tick(2);
                CHECK.due("it has had one", x.bridge(host, 1, 1), false);
                CHECK.due("another one had none", x.bridge((host + 1) % 3, 1, 1), true);
            }
        }
    }

    // 13: "has an ASK"
    private static void anAskThatWaits() {
        WhoIsThere x = Houses.ofRanks(5, 5, 5);
        x.ask(2, KIND, 0);
        x.tick(2);
        CHECK.due("it waits", x.bridge(2, 1, 1), false);
        x.tick(1);
        CHECK.due("it was written", x.bridge(2, 1, 1), true);
        x.ask(0, KIND, 0);
        x.ask(1, KIND, 0);
        CHECK.due("it waits", x.bridge(1, 1, 1), false);
        x.tick(2);
        CHECK.due("another one asked the same", x.bridge(1, 1, 1), true);
        CHECK.due("none of its own was written", x.look(1, 4), 0);
    }

    // 22: "its HOST slept and had a PROXY awake: the HOST is awake now (WOKEN)"
    private static void reachedBySleepAndProxy() {
        WhoIsThere x = Houses.ofRanks(5, 5, 5);
        x.lie(0, KIND, 1, 0, 200);
        x.tick(1);
        x.sleep(0, 1);
        CHECK.due("by its proxy itself", x.reach(1, 0), 2);
        CHECK.due("awake", x.look(0, 0), 2);
        CHECK.due("then it is there", x.reach(1, 0), 1);
        CHECK.due("one woken", x.count(8), 1);
        x.sleep(0, 1);
        x.sleep(1, 2);
        CHECK.due("the proxy is asleep", x.reach(2, 0), 0);
        x.wake(1);
        CHECK.due("the proxy is awake", x.reach(2, 0), 2);
        CHECK.due("two woken", x.count(8), 2);
        x.sleep(0, 1);
        x.fall(1);
        CHECK.due("the proxy is gone", x.reach(2, 0), 0);
        CHECK.due("still asleep", x.look(0, 0), 1);
    }

    // 22: "HELD by that NAME"; "0 neither"
    private static void reachedByThatName() {
        WhoIsThere x = Houses.ofRanks(1, 9, 5);
        x.offer(0, KIND, 4, 0, 200);
        x.tick(4);
        CHECK.due("held by that name", x.reach(2, 0), 1);
        x.deaf(2, 100);
        x.lie(1, KIND, 4, 0, 200);
        x.tick(1);
        CHECK.due("claiming another one", x.reach(2, 0), 0);
        x.tick(4);
        CHECK.due("holding another one", x.service(0, 0), 2);
        CHECK.due("not by that name", x.reach(2, 0), 0);
        x.sleep(0, 1);
        CHECK.due("nor asleep", x.reach(2, 0), 0);
        CHECK.due("which does not wake it", x.look(0, 0), 1);
        CHECK.due("who heard reaches it", x.reach(1, 0), 2);
    }

    // 22: "HELD by that NAME": by that name, but not held
    private static void notHeldByThatName() {
        WhoIsThere x = Houses.ofRanks(5, 5);
        x.lie(0, KIND, 4, 0, 200);
        x.tick(1);
        CHECK.due("held", x.reach(1, 0), 1);
        x.drop(0);
        CHECK.due("gone", x.reach(1, 0), 0);
        x = new WhoIsThere();
        x.host(0, 4, 4, 1);
        x.host(0, 1, 9, 9);
        x.host(0, 1, 9, 5);
        x.offer(0, KIND, 4, 0, 200);
        x.tick(4);
        x.deaf(2, 100);
        x.lie(1, KIND, 4, 0, 200);
        x.tick(1);
        CHECK.due("it claims its only name anew", x.service(0, 2), 3);
        CHECK.due("not held", x.reach(2, 0), 0);
    }

    // 22: "no such HOST awake": one that leaves is awake till the next tick.
    private static void reachedByOneThatLeaves() {
        WhoIsThere x = Houses.ofRanks(5, 5, 5);
        x.lie(0, KIND, 1, 0, 200);
        x.tick(1);
        x.leave(1);
        CHECK.due("it leaves", x.reach(1, 0), 1);
        x.sleep(0, 2);
        CHECK.due("and wakes a sleeper", x.reach(1, 0), 2);
        x.tick(1);
        CHECK.due("gone", x.reach(1, 0), -1);
    }

    // 22: "NONE: no such HOST awake, or RECORD"
    private static void noSuchRecord() {
        WhoIsThere x = Houses.ofRanks(5, 5);
        x.lie(0, KIND, 1, 0, 4);
        CHECK.due("not told yet", x.reach(1, 0), -1);
        x.tick(1);
        x.lose(0, 100);
        x.tick(3);
        CHECK.due("in the last tick of its life", x.reach(1, 0), 1);
        x.tick(1);
        CHECK.due("believed no longer", x.reach(1, 0), -1);
        CHECK.due("its own", x.reach(0, 0), -1);
    }

    /** Eight hosts; all but the asker, 6, and those given know of the owner's service, of marks 5 and life 200. */
    private static WhoIsThere told(int... deafOnes) {
        WhoIsThere x = Houses.ofRanks(5, 5, 5, 5, 5, 5, 5, 5);
        x.deaf(ASKER, 1);
        for (int host : deafOnes) {
            x.deaf(host, 1);
        }
        x.lie(OWNER, KIND, 1, 5, 200);
        x.tick(2);
        return x;
    }

    /** Lets the asker ask, at tick 2, and compares who has an answer: one host, or nobody. */
    private static void answeredBy(String when, WhoIsThere x, int marks, int due) {
        x.ask(ASKER, KIND, marks);
        x.tick(1);
        CHECK.due(when + ": asked", x.look(ASKER, 7), 0);
        for (int h = 0; h < x.count(1); h++) {
            CHECK.due(when + ": answers of host " + h, x.look(h, 8), h == due ? 1 : 0);
        }
    }

    // d. "else each for what it speaks for"
    private static void noKeeper() {
        answeredBy("no keeper", told(), 0, OWNER);
        WhoIsThere x = told();
        x.keeper(2, true);
        x.keeper(2, false);
        answeredBy("a keeper no more", x, 0, OWNER);
        x = told();
        x.keeper(2, true);
        x.fall(2);
        answeredBy("a keeper that fell", x, 0, OWNER);
    }

    // d. "the least such one alone ANSWERS"
    private static void theLeastKeeperAlone() {
        WhoIsThere x = told();
        x.keeper(7, true);
        answeredBy("one keeper", x, 0, 7);
        x = told();
        x.keeper(3, true);
        x.keeper(2, true);
        x.keeper(7, true);
        answeredBy("three keepers", x, 0, 2);
        x = told();
        x.keeper(OWNER, true);
        x.keeper(2, true);
        answeredBy("the owner is the least", x, 0, OWNER);
    }

    // d. "If a KEEPER other than the writer"
    private static void aKeeperOtherThanTheWriter() {
        WhoIsThere x = told();
        x.keeper(ASKER, true);
        answeredBy("the writer alone is one", x, 0, OWNER);
        x = told();
        x.keeper(ASKER, true);
        x.keeper(7, true);
        answeredBy("the writer is the least one", x, 0, 7);
        x = told();
        x.keeper(ASKER, true);
        x.keeper(2, true);
        answeredBy("the writer is the greater one", x, 0, 2);
    }

    // d. "is awake and at home on the NET"
    private static void aKeeperAtHomeOnTheNet() {
        WhoIsThere x = told();
        int far = x.host(1, 1, 9, 5);
        x.keeper(far, true);
        answeredBy("a keeper on another net", x, 0, OWNER);
        x = told();
        far = x.host(1, 1, 9, 5);
        x.keeper(far, true);
        x.keeper(7, true);
        x.join(1, 0);
        answeredBy("two that are on one net by now", x, 0, 7);
    }

    // d. "alone ANSWERS": though it does not hear the ask
    private static void aKeeperThatDoesNotHear() {
        WhoIsThere x = told();
        x.keeper(2, true);
        x.keeper(3, true);
        x.deaf(2, 1);
        answeredBy("the least keeper is deaf", x, 0, -1);
    }

    // d. "alone ANSWERS": though it has nothing to answer
    private static void aKeeperThatKnowsNothing() {
        WhoIsThere x = told(2);
        x.keeper(2, true);
        x.keeper(3, true);
        answeredBy("the least keeper has no record", x, 0, -1);
    }

    // d. "(What it speaks for: by the SERVICE as it is, else by the RECORD.)", of a keeper
    private static void keepersAnswerByTheRecord() {
        WhoIsThere x = told();
        x.keeper(2, true);
        x.lose(OWNER, 1);
        x.change(0, 2);
        answeredBy("marks of the record", x, 5, 2);
        x = told();
        x.keeper(2, true);
        x.lose(OWNER, 1);
        x.change(0, 2);
        answeredBy("not of the service", x, 2, -1);
    }

    // The same, of the owner and of a proxy
    private static void ownersAnswerByTheService() {
        WhoIsThere x = told();
        x.lose(OWNER, 1);
        x.change(0, 2);
        answeredBy("marks of the service", x, 2, OWNER);
        x = told();
        x.lose(2, 1);
        x.change(0, 2);
        x.sleep(OWNER, 2);
        CHECK.due("the proxy has an older record", x.record(2, 0, 1), 5);
        answeredBy("marks of the service, by its proxy", x, 2, 2);
    }

    // d. "has all MARKS asked"
    private static void allMarksAsked() {
        int[][] marksAndAnswers = {{0, OWNER}, {1, OWNER}, {4, OWNER}, {5, OWNER}, {2, -1}, {7, -1}, {255, -1}};
        for (int[] one : marksAndAnswers) {
            answeredBy("the owner, marks " + one[0], told(), one[0], one[1]);
            WhoIsThere x = told();
            x.keeper(2, true);
            answeredBy("a keeper, marks " + one[0], x, one[0], one[1] == OWNER ? 2 : -1);
        }
    }

    // d. "(of RECORDS: for all)": whatever has become of the service
    private static void ofRecordsForAll() {
        WhoIsThere x = told();
        x.keeper(2, true);
        x.fall(OWNER);
        answeredBy("its service is gone", x, 0, 2);
        x.tick(1);
        CHECK.due("and told all the same, at 3", x.record(ASKER, 0, 3), 197);
        CHECK.due("by its keeper", x.look(2, 4), 1);
    }

    // d. "It ANSWERS for what is HELD"
    private static void heldOnesAlone() {
        WhoIsThere x = Houses.ofRanks(5, 5, 5);
        x.tick(2);
        x.offer(0, KIND, 1, 0, 200);
        x.offer(1, KIND, 2, 0, 200);
        x.keeper(1, true);
        x.ask(2, KIND, 0);
        x.tick(1);
        CHECK.due("asked", x.look(2, 7), 0);
        CHECK.due("a keeper, for one that it claims", x.look(1, 8), 0);
        x.keeper(1, false);
        x.ask(2, KIND, 0);
        x.tick(4);
        CHECK.due("asked again, at 6", x.look(2, 7), 0);
        CHECK.due("held since 5, and known by then", x.look(0, 8) + x.look(1, 8), 0);
    }

    /** Told at tick 0 with the life given and no more; keeper 1, that host 3 asked at 3, may tell it at 6. */
    private static WhoIsThere keeperTellsAtSix(int life) {
        WhoIsThere x = Houses.ofRanks(5, 5, 5, 5);
        x.deaf(3, 1);
        x.lie(0, KIND, 1, 9, life);
        x.tick(1);
        x.lose(0, 100);
        x.keeper(1, true);
        x.ask(3, KIND, 0);
        x.tick(3);
        CHECK.due("life " + life + ": an answer waits", x.look(1, 8), 1);
        return x;
    }

    // b. "life: LEFT less 1 (not at all if that is 0)"
    private static void leftLessOne() {
        for (int life : new int[] {6, 7, 8, 200}) {
            WhoIsThere x = keeperTellsAtSix(life);
            x.tick(2);
            CHECK.due("life " + life + ": it still waits", x.look(1, 8), 1);
            x.tick(1);
            CHECK.due("life " + life + ": gone", x.look(1, 8), 0);
            // It ends at 1 and the life, so at 6 that less 6 is left.
            int told = 1 + life - 6 - 1;
            CHECK.due("life " + life + ": a letter", x.look(1, 4), told > 0 ? 1 : 0);
            CHECK.due("life " + life + ": told", x.record(3, 0, 3), told > 0 ? told : -1);
            CHECK.due("life " + life + ": marks", x.record(3, 0, 1), told > 0 ? 9 : -1);
        }
    }

    // b. "(its RENEWAL is t and half the LIFE then)" is of what the writer speaks for.
    private static void keepersRenewNothing() {
        WhoIsThere x = told();
        x.keeper(2, true);
        answeredBy("a keeper", x, 0, 2);
        x.tick(1);
        CHECK.due("told by the keeper, at 3", x.record(ASKER, 0, 3), 197);
        CHECK.due("its renewal is as it was", x.service(0, 5), 100);
    }

    // b. "of RECORDS that it has with an ANSWER due": not of one that is gone by then, by a bye or at its end
    private static void keepersWithoutARecordAnyMore() {
        for (boolean bye : new boolean[] {false, true}) {
            WhoIsThere x = keeperTellsAtSix(bye ? 200 : 4);
            if (bye) {
                x.lose(0, 0);
                x.drop(0);
            }
            x.tick(2);
            CHECK.due("no record is left", x.look(1, 5), 0);
            CHECK.due("the answer still waits", x.look(1, 8), 1);
            x.tick(1);
            CHECK.due("gone", x.look(1, 8), 0);
            CHECK.due("nothing was told", x.look(1, 4), 0);
        }
    }

    // 23: "pairs of SERVICES that are HELD, neither of them FALSE, spoken for .. have one NAME"
    private static void pairsOfOneName() {
        WhoIsThere x = Houses.ofRanks(5, 5, 5);
        for (int h = 0; h < 3; h++) {
            x.deaf(h, 100);
        }
        CHECK.due("no services", x.twice(0), 0);
        x.offer(0, KIND, 1, 0, 200);
        x.tick(1);
        x.offer(1, KIND, 1, 0, 200);
        x.lie(2, KIND, 1, 0, 200);
        x.tick(3);
        CHECK.due("held, claiming and false", x.twice(0), 0);
        x.tick(1);
        CHECK.due("two held and one false", x.twice(0), 1);
        x.sleep(0, 1);
        CHECK.due("a sleeper with a proxy", x.twice(0), 1);
        x.sleep(1, 2);
        CHECK.due("its proxy sleeps, and is spoken for itself", x.twice(0), 0);
        x.wake(0);
        CHECK.due("one awake, one spoken for", x.twice(0), 1);
        x.join(2, 0);
        CHECK.due("not on that net any more", x.twice(0), 0);
        CHECK.due("but on this one", x.twice(2), 1);
    }
}
