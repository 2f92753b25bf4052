/**
 * Promise 17 and the terms that it leans on: what waits (2.) and what a tick does (3., a. to e.).
 *
 * <p>A host's lot makes its asks due at ticks that are its number modulo 4, and its answers to asks one
 * later: host 2 asks at ticks 2, 6, 10 and answers at 3, 7, 11. The ticks that the tests name are counted
 * out that way.
 */
final class TicksTest {
    private static final Check CHECK = new Check();

    public static void main(String[] args) {
        namesAreHeldAfterThreeClaims();
        sleepersHoldNoNames();
        renewalsComeAtHalfTheLife();
        recordsEnd();
        freshRecordsAreKnown();
        staleRecordsAreNotKnown();
        answersFallSilent();
        asksFallSilent();
        marksAreAskedFor();
        strongerClaimWins();
        heldNamesAreDefended();
        weakerHolderYields();
        strengthOfOneRank();
        namesGoRoundAbout();
        falseOnesNeverYield();
        proxiesTellAndDefend();
        proxiesYieldAndWake();
        whatWaitsOfSleepers();
        liesAreNoMore();
        strongerRecordsStay();
        lettersAreHeardInOrder();
        deafToWhatTheyWouldHear();
        keepersAnswerAlone();
        keepersNoMoreTellNothing();
        CHECK.end("TicksTest");
    }

    private static void namesAreHeldAfterThreeClaims() {
        WhoIsThere x = Houses.ofRanks(5, 5);
        x.offer(0, 3, 1, 0, 5);
        for (int claims = 2; claims >= 0; claims--) {
            x.tick(1);
            CHECK.due("a: claims", x.service(0, 2), claims);
            CHECK.due("a: claiming", x.service(0, 0), 1);
            CHECK.due("a: nothing told", x.look(1, 5), 0);
        }
        x.tick(1);
        CHECK.due("a: held", x.service(0, 0), 2);
        CHECK.due("b: told at once, half the life is cut", x.service(0, 5), 5);
        CHECK.due("d: ends at t + 1 and the life", x.record(1, 0, 2), 5);
        CHECK.due("b: four letters", x.look(0, 4), 4);
    }

    private static void sleepersHoldNoNames() {
        WhoIsThere x = Houses.ofRanks(5, 5);
        x.offer(0, 3, 1, 0, 20);
        x.tick(3);
        x.sleep(0, 1);
        x.tick(5);
        CHECK.due("a: asleep, not held", x.service(0, 0), 1);
        x.wake(0);
        x.tick(1);
        CHECK.due("a: awake, held", x.service(0, 5), 18);
    }

    private static void renewalsComeAtHalfTheLife() {
        WhoIsThere x = Houses.ofRanks(5, 5);
        x.lie(0, 3, 1, 0, 7);
        x.tick(1);
        CHECK.due("b: renewal", x.service(0, 5), 3);
        x.tick(2);
        CHECK.due("b: not due", x.look(0, 4), 1);
        x.tick(1);
        CHECK.due("b: due", x.look(0, 4), 2);
        CHECK.due("b: the next", x.service(0, 5), 6);
        CHECK.due("d: told anew", x.record(1, 0, 2), 7);
    }

    private static void recordsEnd() {
        WhoIsThere x = Houses.ofRanks(5, 5);
        x.lie(0, 3, 1, 0, 4);
        x.tick(1);
        x.lose(0, 100);
        x.tick(3);
        CHECK.due("e: one left", x.record(1, 0, 2), 1);
        x.sleep(1, 0);
        x.tick(1);
        CHECK.due("e: gone, of a sleeper too", x.record(1, 0, 2), -1);
        CHECK.due("e: none", x.look(1, 5), 0);
    }

    private static WhoIsThere toldOnceAtTick3() {
        WhoIsThere x = Houses.ofRanks(5, 5, 5);
        x.offer(0, 3, 1, 5, 20);
        x.tick(13);
        x.lose(0, 1);
        return x;
    }

    private static void freshRecordsAreKnown() {
        WhoIsThere x = toldOnceAtTick3();
        x.ask(1, 3, 0);
        x.tick(1);
        CHECK.due("b: written", x.look(1, 7), 0);
        CHECK.due("d: eleven of twenty left: known, no answer", x.look(0, 8), 0);
    }

    private static void staleRecordsAreNotKnown() {
        WhoIsThere x = toldOnceAtTick3();
        x.ask(2, 3, 0);
        x.tick(2);
        CHECK.due("b: the renewal was lost", x.count(4), 1);
        CHECK.due("d: ten of twenty left: an answer", x.look(0, 8), 1);
        CHECK.due("d: none who speaks not for it", x.look(1, 8), 0);
        x.tick(2);
        CHECK.due("d: due at 17", x.look(0, 8), 1);
        x.tick(1);
        CHECK.due("b: told at 17", x.record(2, 0, 2), 20);
        CHECK.due("b: the renewal is put off", x.service(0, 5), 27);
    }

    private static void answersFallSilent() {
        CHECK.due("d: twice the life told is the life", answersAfterKeeperTold(22), 0);
        CHECK.due("d: twice the life told is below", answersAfterKeeperTold(21), 1);
    }

    /** The owner, host 3, has an answer due at 16; at 14 a keeper tells a life of eleven less. */
    private static int answersAfterKeeperTold(int life) {
        WhoIsThere x = Houses.ofRanks(5, 5, 5, 5);
        x.deaf(0, 100);
        x.offer(3, 3, 1, 0, life);
        x.tick(10);
        x.keeper(1, true);
        x.ask(3, 3, 0);
        x.tick(2);
        CHECK.due("d: the keeper answers the owner, too", x.look(1, 8), 1);
        x.keeper(1, false);
        x.ask(0, 3, 0);
        x.tick(1);
        CHECK.due("d: without a keeper the owner", x.look(3, 8), 1);
        x.keeper(1, true);
        x.lose(3, life == 21 ? 1 : 0);
        x.tick(2);
        CHECK.due("b: the keeper told", x.look(1, 4), 1);
        return x.look(3, 8);
    }

    private static void asksFallSilent() {
        WhoIsThere x = Houses.ofRanks(5, 5, 5);
        x.ask(1, 3, 4);
        x.ask(2, 3, 4);
        x.tick(2);
        CHECK.due("d: the same is asked", x.look(2, 7), 0);
        CHECK.due("d: asked once", x.count(3), 1);
        x = Houses.ofRanks(5, 5, 5);
        x.ask(1, 3, 4);
        x.ask(2, 3, 5);
        x.ask(2, 4, 4);
        x.tick(2);
        CHECK.due("d: other marks, another kind", x.look(2, 7), 2);
        x = Houses.ofRanks(5, 5, 5);
        x.deaf(2, 1);
        x.lie(0, 3, 1, 0, 40);
        x.tick(1);
        x.ask(1, 3, 4);
        x.ask(2, 3, 4);
        x.tick(1);
        CHECK.due("d: known there, not here", x.look(2, 7), 1);
        x = Houses.ofRanks(5, 5, 5);
        x.deaf(1, 1);
        x.lie(0, 3, 1, 0, 40);
        x.tick(1);
        x.ask(1, 3, 4);
        x.ask(2, 3, 4);
        x.tick(1);
        CHECK.due("d: known here, not there", x.look(2, 7), 0);
    }

    private static void marksAreAskedFor() {
        WhoIsThere x = Houses.ofRanks(5, 5);
        x.deaf(1, 4);
        x.lie(0, 3, 1, 6, 40);
        x.lie(0, 3, 2, 2, 40);
        x.lie(0, 4, 3, 255, 40);
        x.offer(0, 3, 4, 255, 40);
        x.ask(1, 3, 6);
        x.tick(2);
        CHECK.due("d: all marks, the kind, held", x.look(0, 8), 1);
        x.tick(4);
        CHECK.due("b: told", x.record(1, 0, 1), 6);
        CHECK.due("b: that one alone", x.record(1, 1, 1), -1);
    }

    private static void strongerClaimWins() {
        WhoIsThere x = Houses.ofRanks(5, 6);
        x.offer(0, 3, 4, 0, 20);
        x.offer(1, 3, 4, 0, 20);
        x.tick(1);
        CHECK.due("d: the weaker yields", x.service(0, 1), 5);
        CHECK.due("d: and claims anew", x.service(0, 2), 3);
        CHECK.due("d: once", x.service(0, 7), 1);
        CHECK.due("d: without a bye", x.service(0, 6), 0);
        CHECK.due("d: the stronger stays", x.service(1, 1), 4);
        CHECK.due("d: unmoved", x.service(1, 7), 0);
        CHECK.due("d: one yield", x.count(5), 1);
    }

    private static void heldNamesAreDefended() {
        WhoIsThere x = Houses.ofRanks(5);
        x.lie(0, 3, 9, 0, 40);
        x.offer(0, 3, 1, 0, 40);
        x.tick(4);
        x.host(0, 1, 9, 900);
        x.offer(1, 3, 1, 0, 40);
        x.tick(1);
        CHECK.due("d: held ones answer a claim", x.look(0, 8), 1);
        CHECK.due("d: and hold on", x.service(1, 0), 2);
        x.tick(1);
        CHECK.due("b: told", x.look(0, 4), 5);
        CHECK.due("d: the second claim, of the same tick, is answered too", x.look(0, 8), 1);
        CHECK.due("d: a claiming one yields to what is told", x.service(2, 1), 2);
        CHECK.due("d: three claims anew", x.service(2, 2), 3);
        CHECK.due("d: record of the holder", x.record(1, 1, 0), 1);
    }

    private static WhoIsThere twoHolders(int rank0, int rank1) {
        WhoIsThere x = new WhoIsThere();
        x.host(0, 1, 9, rank0);
        x.host(1, 1, 9, rank1);
        x.offer(0, 3, 1, 0, 40);
        x.offer(1, 3, 1, 0, 40);
        x.tick(10);
        x.join(0, 1);
        CHECK.due("d: one name twice", x.twice(0), 1);
        x.tick(1);
        return x;
    }

    private static void weakerHolderYields() {
        WhoIsThere x = twoHolders(5, 6);
        CHECK.due("d: the weaker holder yields", x.service(0, 1), 2);
        CHECK.due("d: claiming", x.service(0, 0), 1);
        CHECK.due("d: with a bye", x.service(0, 6), 1);
        CHECK.due("d: no renewal", x.service(0, 5), -1);
        CHECK.due("d: the stronger defends", x.look(1, 8), 1);
        CHECK.due("d: not twice any more", x.twice(0), 0);
        CHECK.due("d: told before it yielded", x.record(1, 0, 0), 1);
        x.tick(1);
        CHECK.due("d: the bye is heard", x.record(1, 0, 0), -1);
        CHECK.due("b: and gone", x.service(0, 6), 0);
        CHECK.due("b: claimed", x.service(0, 2), 2);
    }

    private static void strengthOfOneRank() {
        WhoIsThere x = twoHolders(5, 5);
        CHECK.due("terms: of one rank the lesser host", x.service(0, 7), 0);
        CHECK.due("terms: the other yields", x.service(1, 7), 1);
    }

    private static void namesGoRoundAbout() {
        WhoIsThere x = new WhoIsThere();
        x.host(0, 5, 8, 5);
        x.host(0, 5, 8, 9);
        x.deaf(1, 100);
        x.offer(0, 3, 7, 0, 40);
        x.offer(0, 3, 8, 0, 40);
        x.offer(0, 3, 5, 0, 40);
        x.drop(1);
        x.lie(0, 3, 8, 0, 40);
        x.offer(1, 3, 7, 0, 40);
        x.tick(1);
        CHECK.due("2: 8 and 5 are had by others", x.service(0, 1), 6);
        x.drop(4);
        x.offer(1, 3, 6, 0, 40);
        x.tick(1);
        CHECK.due("2: the next", x.service(0, 1), 7);
    }

    private static void falseOnesNeverYield() {
        WhoIsThere x = Houses.ofRanks(5, 900);
        x.lie(0, 3, 1, 0, 40);
        x.offer(1, 3, 1, 0, 40);
        x.tick(1);
        CHECK.due("d: a claiming one yields to a false one", x.service(1, 1), 2);
        CHECK.due("d: no defence of a false one", x.look(0, 8), 0);
        x.drop(1);
        x.lie(1, 3, 1, 0, 40);
        x.tick(1);
        CHECK.due("d: false ones hold on", x.service(0, 0), 2);
        CHECK.due("d: of the stronger, too", x.service(2, 0), 2);
        CHECK.due("d: yields", x.count(5), 1);
        CHECK.due("d: no answers", x.look(0, 8) + x.look(1, 8), 0);
    }

    private static WhoIsThere sleeperWithProxy() {
        WhoIsThere x = Houses.ofRanks(5, 5, 5);
        x.offer(2, 3, 1, 7, 20);
        x.tick(4);
        x.sleep(2, 1);
        return x;
    }

    private static void proxiesTellAndDefend() {
        WhoIsThere x = sleeperWithProxy();
        x.tick(10);
        CHECK.due("b: the proxy renews", x.look(1, 4), 1);
        CHECK.due("b: the sleeper is silent", x.look(2, 4), 4);
        CHECK.due("b: renewal", x.service(0, 5), 23);
        CHECK.due("d: heard", x.record(0, 0, 2), 20);
        x.host(0, 1, 9, 4);
        x.offer(3, 3, 1, 0, 20);
        x.tick(1);
        CHECK.due("d: the proxy defends", x.look(1, 8), 1);
        CHECK.due("d: not the sleeper", x.look(2, 8), 0);
        x.tick(1);
        CHECK.due("d: the claimer yields", x.service(1, 1), 2);
        x.ask(3, 3, 0);
        x.deaf(3, 0);
        x.tick(4);
        CHECK.due("d: known, not asked", x.look(1, 8), 0);
    }

    private static void proxiesYieldAndWake() {
        WhoIsThere x = sleeperWithProxy();
        x.host(1, 1, 9, 9);
        x.offer(3, 3, 1, 0, 20);
        x.tick(4);
        x.join(0, 1);
        x.tick(1);
        CHECK.due("2: it yields", x.service(0, 1), 2);
        CHECK.due("2: with a bye", x.service(0, 6), 1);
        CHECK.due("2: its host is awake", x.look(2, 0), 2);
        CHECK.due("2: woken", x.count(8), 1);
        CHECK.due("c: as its turn comes it hears that letter", x.record(2, 1, 0), 1);
        x.tick(1);
        CHECK.due("b: it writes its bye itself", x.record(0, 0, 0), -1);
        CHECK.due("b: letters of its own", x.look(2, 4), 5);
    }

    private static void whatWaitsOfSleepers() {
        WhoIsThere x = Houses.ofRanks(5, 5, 5);
        x.lie(0, 3, 1, 0, 20);
        x.deaf(2, 1);
        x.ask(2, 3, 0);
        x.tick(3);
        CHECK.due("d: an answer waits", x.look(0, 8), 1);
        x.drop(0);
        x.lie(0, 3, 2, 0, 20);
        x.sleep(0, 1);
        x.tick(6);
        CHECK.due("8: the answer stays", x.look(0, 8), 1);
        CHECK.due("8: the bye stays", x.service(0, 6), 1);
        CHECK.due("8: the record lives on", x.record(1, 0, 2), 12);
        CHECK.due("8: the proxy tells", x.record(2, 1, 0), 2);
        x.wake(0);
        x.tick(1);
        CHECK.due("b: nothing to tell of, and gone", x.look(0, 8), 0);
        CHECK.due("b: the bye is written", x.service(0, 6), 0);
        CHECK.due("d: and heard", x.record(1, 0, 2), -1);
    }

    private static void liesAreNoMore() {
        WhoIsThere x = Houses.ofRanks(5, 5, 5);
        x.host(0, 20, 29, 900);
        x.offer(0, 3, 1, 0, 20);
        x.lie(3, 3, 1, 0, 20);
        x.tick(1);
        CHECK.due("d: a lie heard by three", x.count(6), 3);
        CHECK.due("d: nobody yields to it", x.service(0, 7), 0);
        CHECK.due("d: no record", x.look(1, 5), 0);
        x.drop(1);
        x.tick(3);
        x.lie(3, 3, 1, 0, 20);
        x.tick(1);
        CHECK.due("d: no defence", x.look(0, 8), 0);
    }

    private static void strongerRecordsStay() {
        WhoIsThere x = Houses.ofRanks(5, 9, 7);
        x.deaf(0, 100);
        x.deaf(1, 100);
        x.offer(0, 3, 1, 0, 10);
        x.offer(1, 3, 1, 0, 10);
        x.tick(4);
        CHECK.due("d: the weaker record is gone", x.record(2, 0, 0), -1);
        CHECK.due("d: for the stronger one", x.record(2, 1, 0), 1);
        CHECK.due("d: none left out", x.count(7), 0);
        x.tick(5);
        CHECK.due("d: the weaker telling is left out", x.count(7), 1);
        CHECK.due("d: no record of it", x.record(2, 0, 0), -1);
        CHECK.due("d: one record", x.look(2, 5), 1);
    }

    private static void lettersAreHeardInOrder() {
        WhoIsThere x = new WhoIsThere();
        x.host(0, 1, 2, 5);
        x.host(0, 1, 9, 9);
        x.host(0, 1, 9, 1);
        x.deaf(0, 1);
        x.lie(2, 3, 3, 0, 20);
        x.tick(1);
        x.drop(0);
        x.lie(2, 3, 4, 0, 20);
        x.tick(1);
        CHECK.due("c: the bye", x.record(1, 0, 0), -1);
        CHECK.due("c: and the telling of one letter", x.record(1, 1, 0), 4);
        x.offer(0, 3, 1, 0, 20);
        x.offer(1, 3, 1, 0, 20);
        x.offer(1, 3, 2, 0, 20);
        x.tick(1);
        CHECK.due("c: claims by service: from 1 to 2, and on to 1", x.service(2, 7), 2);
        CHECK.due("c: its name", x.service(2, 1), 1);
    }

    private static void deafToWhatTheyWouldHear() {
        WhoIsThere x = Houses.ofRanks(5, 5);
        x.host(1, 1, 9, 5);
        x.host(0, 1, 9, 5);
        x.deaf(1, 1);
        x.deaf(2, 1);
        x.deaf(3, 1);
        x.sleep(3, 1);
        x.lie(0, 3, 1, 0, 4);
        x.tick(1);
        x.wake(3);
        x.tick(2);
        CHECK.due("c: it heard the second one", x.record(1, 0, 2), 4);
        CHECK.due("c: a sleeper's turn did not come before", x.record(3, 0, 2), -1);
        x.join(0, 1);
        x.tick(1);
        CHECK.due("c: nor that of one on another net", x.record(2, 0, 2), -1);
        CHECK.due("c: but now it did", x.record(3, 0, 2), 4);
        x.tick(2);
        CHECK.due("c: heard", x.record(2, 0, 2), 4);
    }

    private static void keepersAnswerAlone() {
        WhoIsThere x = Houses.ofRanks(5, 5, 5, 5, 5);
        x.deaf(4, 1);
        x.lie(0, 3, 1, 2, 40);
        x.tick(1);
        x.lie(2, 3, 2, 2, 40);
        x.lie(1, 3, 3, 2, 40);
        x.lie(1, 3, 4, 0, 40);
        x.deaf(4, 2);
        x.tick(1);
        x.keeper(1, true);
        x.keeper(2, true);
        x.ask(4, 3, 2);
        x.tick(3);
        CHECK.due("d: the least keeper answers, for its own and records", x.look(1, 8), 3);
        CHECK.due("d: the other keeper does not", x.look(2, 8), 0);
        CHECK.due("d: nor the owner", x.look(0, 8), 0);
        x.ask(1, 3, 2);
        x.tick(1);
        CHECK.due("d: a keeper's ask is for the other one, by its record", x.look(2, 8), 1);
        CHECK.due("d: still not for the owner", x.look(0, 8), 0);
        x.keeper(2, false);
        x.lie(0, 5, 5, 0, 40);
        x.deaf(1, 1);
        x.tick(1);
        x.ask(1, 5, 0);
        x.tick(3);
        CHECK.due("d: of the only keeper's ask each for its own", x.look(0, 8), 1);
    }

    private static void keepersNoMoreTellNothing() {
        WhoIsThere x = Houses.ofRanks(5, 5, 5, 5);
        x.deaf(3, 1);
        x.lie(0, 3, 1, 0, 100);
        x.tick(1);
        x.keeper(1, true);
        x.ask(3, 3, 0);
        x.tick(3);
        x.keeper(1, false);
        x.tick(3);
        CHECK.due("b: the answer is gone", x.look(1, 8), 0);
        CHECK.due("b: nothing told", x.look(1, 4), 0);
        CHECK.due("b: nothing heard", x.record(3, 0, 0), -1);
    }
}
