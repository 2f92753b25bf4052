/**
 * The edges that the terms name of what waits: lots, answers, asks, claims, renewals, what is known, and how
 * long a record is believed. Each test begins with the words it tests.
 *
 * <p>By its lot an ask of host h is due at the next tick, from now on, that is h modulo 4, and an answer to an
 * ask at the next one, after now, that is h + 1 modulo 4.
 */
final class EdgesOfWaitingTest {
    private static final Check CHECK = new Check();
    private static final int KIND = 3;
    private static final int CLAIMING = 1;
    private static final int HELD = 2;

    public static void main(String[] args) {
        lotsOfAsks();
        lotsOfAnswers();
        answersOfTheKind();
        anEarlierAnswerTakesThePlaceOfALater();
        aLaterAnswerPutsOffNone();
        askAndClaimInOneLetter();
        oneAskOfAKind();
        asksOfTheSameMarks();
        whatIsKnownThere();
        whatIsKnownOfTheKind();
        whatIsKnownNoLonger();
        dueOrAhead();
        renewalsThatAreLongDue();
        answersThatAreLongDue();
        knownAboveHalfTheLife();
        heldWithNoClaimsLeft();
        heldOfHostsAwake();
        halfTheLifeCut();
        anAnswerPutsOffTheRenewal();
        changesRenewWhatIsHeld();
        answersWithNothingToTell();
        answersForWhatIsHeldNoLonger();
        silentAtHalfTheLife();
        recordsEndWithTheirLife();
        recordsEndUnlessToldAnew();
        recordsOfALifeOfOne();
        CHECK.end("EdgesOfWaitingTest");
    }

    /** Twelve hosts on net 0, of names apart. */
    private static WhoIsThere twelve() {
        return Houses.ofNets(new int[12]);
    }

    private static int lot(int host, int tick) {
        return (5 * host + 3 * tick) % 4;
    }

    // "LOT of HOST h and a tick t: (5 h + 3 t) modulo 4"; 7: "due at the TICK and LOT"
    private static void lotsOfAsks() {
        for (int h = 0; h < 12; h++) {
            for (int tick = 0; tick < 9; tick++) {
                WhoIsThere x = twelve();
                if (tick > 0) {
                    x.tick(tick);
                }
                x.ask(h, KIND, 0);
                for (int waits = 0; waits < lot(h, tick); waits++) {
                    x.tick(1);
                    CHECK.due("host " + h + " at " + tick + " waits", x.look(h, 7), 1);
                }
                x.tick(1);
                CHECK.due("host " + h + " at " + tick + " asked", x.look(h, 7), 0);
                CHECK.due("host " + h + " at " + tick + " wrote", x.look(h, 4), 1);
            }
        }
    }

    /** A house where only the answerer knows of its service, of life 200, as the asker asks at the tick answered. */
    private static int askHeard(WhoIsThere x, int asker, int answerer) {
        for (int h = 0; h < 12; h++) {
            x.deaf(h, h == answerer ? 0 : 1);
        }
        x.lie(answerer, KIND, 10 * answerer + 1, 0, 200);
        x.tick(4);
        x.ask(asker, KIND, 0);
        return x.tick(1 + lot(asker, 4)) - 1;
    }

    // d. "an ANSWER comes to be due at t + 1 + LOT"
    private static void lotsOfAnswers() {
        for (int asker = 0; asker < 4; asker++) {
            for (int answerer = 4; answerer < 12; answerer++) {
                WhoIsThere x = twelve();
                int heard = askHeard(x, asker, answerer);
                String who = "host " + answerer + " at " + heard;
                CHECK.due(who + " told nothing yet", x.service(0, 5), 100);
                for (int waits = 0; waits < lot(answerer, heard); waits++) {
                    x.tick(1);
                    CHECK.due(who + " waits", x.look(answerer, 8), 1);
                }
                CHECK.due(who + " told nothing before", x.service(0, 5), 100);
                x.tick(1);
                CHECK.due(who + " answered", x.look(answerer, 8), 0);
                CHECK.due(who + " told", x.service(0, 5), heard + 1 + lot(answerer, heard) + 100);
            }
        }
    }

    // d. "of the KIND": each of them, and none beside it
    private static void answersOfTheKind() {
        for (int kind = 0; kind < 16; kind++) {
            for (int asked = Math.max(0, kind - 1); asked <= Math.min(15, kind + 1); asked++) {
                WhoIsThere x = Houses.ofRanks(5, 5);
                x.deaf(1, 1);
                x.lie(0, kind, 1, 0, 200);
                x.tick(1);
                x.ask(1, asked, 0);
                x.tick(1);
                CHECK.due("of kind " + kind + ", asked " + asked, x.look(0, 8), asked == kind ? 1 : 0);
            }
        }
    }

    /** Host 0, the weakest, holds a name since tick 3; host 1, that did not hear so, has asked at 5. */
    private static WhoIsThere answerDueAtNine() {
        WhoIsThere x = Houses.ofRanks(1, 5, 9);
        x.offer(0, KIND, 1, 0, 200);
        x.deaf(1, 4);
        x.tick(4);
        x.ask(1, KIND, 0);
        x.tick(2);
        CHECK.due("asked at 5, due at 9", x.look(0, 8), 1);
        return x;
    }

    // "An ANSWER comes to be due at d: if none is due, or one later than d, it is due at d"
    private static void anEarlierAnswerTakesThePlaceOfALater() {
        WhoIsThere x = answerDueAtNine();
        x.offer(2, KIND, 1, 0, 200);
        x.tick(1);
        x.drop(1);
        CHECK.due("claimed at 6, not told yet", x.service(0, 5), 103);
        x.tick(1);
        CHECK.due("told at 7", x.service(0, 5), 107);
        CHECK.due("no answer is left", x.look(0, 8), 0);
        x.tick(3);
        CHECK.due("and nothing told at 9", x.service(0, 5), 107);
    }

    // "if none is due, or one later than d": one that is due before stays as it is.
    private static void aLaterAnswerPutsOffNone() {
        WhoIsThere x = Houses.ofRanks(5, 5, 5, 5, 5);
        x.deaf(1, 4);
        x.offer(4, KIND, 1, 0, 200);
        x.tick(5);
        x.offer(0, KIND, 1, 0, 200);
        x.ask(1, KIND, 0);
        x.tick(1);
        x.drop(1);
        CHECK.due("claimed by host 0, asked by host 1, both at 5", x.look(4, 8), 1);
        CHECK.due("not told yet", x.service(0, 5), 103);
        x.tick(1);
        CHECK.due("told at 6, not at 9", x.service(0, 5), 106);
    }

    // The same in one letter, where ASKS are heard first
    private static void askAndClaimInOneLetter() {
        WhoIsThere x = Houses.ofRanks(5, 5);
        x.offer(0, KIND, 1, 0, 200);
        x.deaf(1, 100);
        x.tick(5);
        x.offer(1, KIND, 1, 0, 200);
        x.ask(1, KIND, 0);
        x.tick(1);
        CHECK.due("one answer, for both", x.look(0, 8), 1);
        x.drop(1);
        x.tick(1);
        CHECK.due("told at 6, not at 9", x.service(0, 5), 106);
    }

    // 7: "or one of that KIND waits"
    private static void oneAskOfAKind() {
        WhoIsThere x = Houses.ofRanks(5, 5);
        CHECK.due("the first", x.ask(1, KIND, 0), true);
        CHECK.due("a second", x.ask(1, KIND, 255), false);
        CHECK.due("of the kind before", x.ask(1, KIND - 1, 0), true);
        CHECK.due("of the kind behind", x.ask(1, KIND + 1, 0), true);
        CHECK.due("of another host", x.ask(0, KIND, 255), true);
        x.tick(1);
        CHECK.due("still waits", x.ask(1, KIND, 0), false);
        x.tick(1);
        CHECK.due("it is written, and asked again", x.ask(1, KIND, 0), true);
        CHECK.due("one waits", x.look(1, 7), 1);
    }

    /** Hosts 0 and 1 ask by lots at ticks 4 and 5: how many asks of host 1 wait when it has heard the first. */
    private static int asksLeft(int kind0, int marks0, int kind1, int marks1) {
        WhoIsThere x = Houses.ofRanks(5, 5);
        x.tick(4);
        x.ask(0, kind0, marks0);
        x.ask(1, kind1, marks1);
        x.tick(1);
        CHECK.due("the first is written", x.look(0, 7), 0);
        return x.look(1, 7);
    }

    // d. "if it has one of the same KIND and MARKS .. its own one is gone"
    private static void asksOfTheSameMarks() {
        CHECK.due("the same", asksLeft(KIND, 4, KIND, 4), 0);
        CHECK.due("none", asksLeft(KIND, 0, KIND, 0), 0);
        CHECK.due("all", asksLeft(15, 255, 15, 255), 0);
        CHECK.due("fewer marks", asksLeft(KIND, 4, KIND, 5), 1);
        CHECK.due("more marks", asksLeft(KIND, 5, KIND, 4), 1);
        CHECK.due("another kind", asksLeft(KIND, 4, KIND + 1, 4), 1);
    }

    /** The same, where a service was told to those of the two that are not deaf to it. */
    private static int asksLeftWhereKnown(boolean to0, boolean to1, int life) {
        WhoIsThere x = Houses.ofRanks(5, 5, 5);
        x.deaf(0, to0 ? 0 : 1);
        x.deaf(1, to1 ? 0 : 1);
        x.lie(2, KIND, 1, 0, life);
        x.tick(1);
        x.lose(2, 100);
        x.tick(3);
        x.ask(0, KIND, 0);
        x.ask(1, KIND, 0);
        x.tick(1);
        return x.look(1, 7);
    }

    // d. "and all that is KNOWN there is KNOWN to it"
    private static void whatIsKnownThere() {
        CHECK.due("known to both", asksLeftWhereKnown(true, true, 20), 0);
        CHECK.due("known to neither", asksLeftWhereKnown(false, false, 20), 0);
        CHECK.due("known here alone", asksLeftWhereKnown(false, true, 20), 0);
        CHECK.due("known there alone", asksLeftWhereKnown(true, false, 20), 1);
        CHECK.due("a record there that is too old to be known", asksLeftWhereKnown(true, false, 6), 0);
    }

    // b. "what is KNOWN: SERVICES of that KIND"
    private static void whatIsKnownOfTheKind() {
        WhoIsThere x = Houses.ofRanks(5, 5, 5);
        x.deaf(1, 1);
        x.lie(2, KIND + 1, 1, 0, 200);
        x.tick(4);
        x.ask(0, KIND, 0);
        x.ask(1, KIND, 0);
        x.tick(1);
        CHECK.due("what is known of another kind is not known there", x.look(1, 7), 0);
    }

    // b. "of which it has a RECORD": not one that is gone by a bye
    private static void whatIsKnownNoLonger() {
        WhoIsThere x = Houses.ofRanks(5, 5, 5);
        x.deaf(1, 1);
        x.lie(2, KIND, 1, 0, 200);
        x.tick(1);
        x.drop(0);
        x.tick(3);
        x.ask(0, KIND, 0);
        x.ask(1, KIND, 0);
        x.tick(1);
        CHECK.due("nothing is known there any more", x.look(1, 7), 0);
    }

    // b. "ASKS that are due (t or ahead)": a sleeper's ask that was due while it slept
    private static void dueOrAhead() {
        WhoIsThere x = Houses.ofRanks(5, 5);
        x.ask(1, KIND, 0);
        x.sleep(1, 0);
        x.tick(7);
        CHECK.due("it stays", x.look(1, 7), 1);
        x.wake(1);
        CHECK.due("at first", x.look(1, 7), 1);
        x.tick(1);
        CHECK.due("written at 7, though due at 1", x.look(1, 7), 0);
        CHECK.due("one letter", x.count(3), 1);
    }

    // b. "whose RENEWAL .. is due": of a sleeper that nobody speaks for, long ahead
    private static void renewalsThatAreLongDue() {
        WhoIsThere x = Houses.ofRanks(5, 5, 5);
        x.offer(0, KIND, 1, 0, 10);
        x.tick(4);
        x.sleep(0, 1);
        x.fall(1);
        x.tick(20);
        CHECK.due("not told", x.service(0, 5), 8);
        CHECK.due("believed no longer", x.look(2, 5), 0);
        x.wake(0);
        x.tick(1);
        CHECK.due("told at 24", x.service(0, 5), 29);
        CHECK.due("believed", x.record(2, 0, 2), 10);
    }

    // b. "or an ANSWER that it has for it, is due": of a sleeper, long ahead
    private static void answersThatAreLongDue() {
        WhoIsThere x = answerDueAtNine();
        x.sleep(0, 1);
        x.tick(8);
        CHECK.due("it stays", x.look(0, 8), 1);
        x.wake(0);
        x.tick(1);
        CHECK.due("told at 14, though due at 9", x.service(0, 5), 114);
        CHECK.due("gone", x.look(0, 8), 0);
    }

    /** Whether host 1, that asks at the tick given, knows what was told at tick 0 with the life given. */
    private static boolean isKnown(int life, int asked) {
        WhoIsThere x = Houses.ofRanks(5, 5);
        x.lie(0, KIND, 1, 0, life);
        x.tick(1);
        x.lose(0, 100);
        for (int t = 1; t < asked - 3; t++) {
            x.tick(1);
        }
        x.ask(1, KIND, 0);
        x.tick(3);
        CHECK.due("not asked yet", x.look(1, 7), 1);
        x.tick(1);
        CHECK.due("asked", x.look(1, 7), 0);
        return x.look(0, 8) == 0;
    }

    // b. "of which it has a RECORD with twice LEFT above the life told"
    private static void knownAboveHalfTheLife() {
        int[][] livesAndTicks = {{6, 5}, {7, 5}, {8, 5}, {9, 5}, {10, 5}, {15, 9}, {16, 9}, {17, 9}, {18, 9},
            {200, 97}, {200, 101}, {199, 97}, {199, 101}, {192, 97}, {193, 97}};
        for (int[] one : livesAndTicks) {
            int left = 1 + one[0] - one[1];
            CHECK.due("life " + one[0] + ", left " + left, isKnown(one[0], one[1]), 2 * left > one[0]);
        }
        CHECK.due("half the life left", isKnown(8, 5), false);
        CHECK.due("one more", isKnown(9, 5), true);
    }

    // a. "SERVICES .. that are CLAIMING with no CLAIMS left"
    private static void heldWithNoClaimsLeft() {
        WhoIsThere x = Houses.ofRanks(5, 5);
        x.tick(2);
        x.offer(0, KIND, 1, 0, 20);
        for (int left = 3; left >= 0; left--) {
            CHECK.due("claims left", x.service(0, 2), left);
            CHECK.due("claiming", x.service(0, 0), CLAIMING);
            CHECK.due("no renewal", x.service(0, 5), -1);
            CHECK.due("a letter each", x.look(0, 4), 3 - left);
            x.tick(1);
        }
        CHECK.due("held", x.service(0, 0), HELD);
        CHECK.due("renewal at 5, told then", x.service(0, 5), 15);
        CHECK.due("no claims left", x.service(0, 2), 0);
    }

    // a. "of HOSTS awake"
    private static void heldOfHostsAwake() {
        WhoIsThere x = Houses.ofRanks(5, 5);
        x.offer(0, KIND, 1, 0, 20);
        x.tick(2);
        x.sleep(0, 1);
        x.tick(3);
        CHECK.due("a sleeper claims nothing", x.service(0, 2), 1);
        x.wake(0);
        x.tick(1);
        x.sleep(0, 1);
        x.tick(3);
        CHECK.due("a sleeper holds nothing", x.service(0, 0), CLAIMING);
        CHECK.due("with no claims left", x.service(0, 2), 0);
        x.wake(0);
        x.tick(1);
        CHECK.due("awake it holds", x.service(0, 0), HELD);
        CHECK.due("told at 9", x.service(0, 5), 19);
    }

    // b. "(its RENEWAL is t and half the LIFE then, cut)"
    private static void halfTheLifeCut() {
        for (int life : new int[] {4, 5, 6, 7, 99, 100, 101, 199, 200}) {
            WhoIsThere x = Houses.ofRanks(5, 5);
            x.tick(3);
            x.lie(0, KIND, 1, 0, life);
            CHECK.due("at first now", x.service(0, 5), 3);
            x.tick(1);
            CHECK.due("half of " + life, x.service(0, 5), 3 + life / 2);
            for (int t = 4; t < 3 + life / 2; t++) {
                x.tick(1);
            }
            CHECK.due("not before", x.look(0, 4), 1);
            CHECK.due("the record has lost half", x.record(1, 0, 2), life + 1 - life / 2);
            x.tick(1);
            CHECK.due("told again", x.look(0, 4), 2);
            CHECK.due("and half again", x.service(0, 5), 3 + 2 * (life / 2));
            CHECK.due("believed anew", x.record(1, 0, 2), life);
        }
    }

    // b. The same, told for an ANSWER
    private static void anAnswerPutsOffTheRenewal() {
        WhoIsThere x = Houses.ofRanks(5, 5);
        x.deaf(1, 1);
        x.lie(0, KIND, 1, 0, 19);
        x.ask(1, KIND, 0);
        x.tick(5);
        CHECK.due("asked at 1, not told again yet", x.service(0, 5), 9);
        x.tick(1);
        CHECK.due("told at 5", x.service(0, 5), 14);
        x.tick(8);
        CHECK.due("not at 9", x.look(0, 4), 2);
        x.tick(1);
        CHECK.due("but at 14", x.look(0, 4), 3);
    }

    // 6: "if it is HELD, its RENEWAL is now"
    private static void changesRenewWhatIsHeld() {
        WhoIsThere x = Houses.ofRanks(5, 5);
        x.offer(0, KIND, 1, 0, 200);
        for (int marks : new int[] {255, 0, 0}) {
            CHECK.due("claiming", x.change(0, marks), true);
            CHECK.due("its marks", x.service(0, 3), marks);
            CHECK.due("no renewal", x.service(0, 5), -1);
        }
        x.tick(6);
        CHECK.due("told at 3", x.service(0, 5), 103);
        CHECK.due("changed to what it was", x.change(0, 0), true);
        CHECK.due("renewal now all the same", x.service(0, 5), 6);
        x.tick(1);
        CHECK.due("told at 6", x.service(0, 5), 106);
    }

    // b. "ANSWERS that are due and ASKS that were written are gone then (also what a HOST has nothing to tell of)"
    private static void answersWithNothingToTell() {
        WhoIsThere x = answerDueAtNine();
        x.drop(0);
        x.tick(3);
        CHECK.due("due at 9", x.look(0, 8), 1);
        int letters = x.look(0, 4);
        x.tick(1);
        CHECK.due("gone", x.look(0, 8), 0);
        CHECK.due("without a letter", x.look(0, 4), letters);
    }

    // b. "of what it speaks for that is HELD": not if it has yielded since
    private static void answersForWhatIsHeldNoLonger() {
        WhoIsThere x = answerDueAtNine();
        x.lie(2, KIND, 1, 0, 200);
        x.tick(3);
        CHECK.due("it yielded at 6", x.service(0, 7), 1);
        CHECK.due("the answer stays", x.look(0, 8), 1);
        x.tick(1);
        CHECK.due("it still claims at 9", x.service(0, 0), CLAIMING);
        CHECK.due("the answer is gone", x.look(0, 8), 0);
        CHECK.due("it was not told", x.record(1, 0, 0), -1);
    }

    // d. "An ANSWER that it has for s is gone, if twice the life told is not below the LIFE of s"
    private static void silentAtHalfTheLife() {
        for (int life : new int[] {8, 9, 10, 11, 12, 13, 14, 15, 16}) {
            CHECK.due("life " + life + ", told " + (life - 6), answersAfter(life), 2 * (life - 6) < life ? 1 : 0);
        }
    }

    /** At tick 6 keeper 1 tells six less than the life; keeper 3 heard an ask of it at tick 5. */
    private static int answersAfter(int life) {
        WhoIsThere x = Houses.ofRanks(5, 5, 5, 5, 5, 5);
        x.deaf(4, 1);
        x.deaf(5, 1);
        x.lie(0, KIND, 1, 0, life);
        x.tick(1);
        x.lose(0, 100);
        x.keeper(1, true);
        x.tick(3);
        x.ask(4, KIND, 0);
        x.tick(1);
        CHECK.due("keeper 1 was asked at 4", x.look(1, 8), 1);
        x.keeper(1, false);
        x.keeper(3, true);
        x.ask(5, KIND, 0);
        x.tick(1);
        CHECK.due("keeper 3 was asked at 5", x.look(3, 8), 1);
        x.keeper(1, true);
        x.tick(1);
        CHECK.due("keeper 1 told at 6", x.record(4, 0, 3), life - 6);
        return x.look(3, 8);
    }

    // d. "ends at t + 1 and the life"; e. "RECORDS that end at t + 1 are gone"
    private static void recordsEndWithTheirLife() {
        for (int life : new int[] {4, 5, 199, 200}) {
            recordEnds(life, 0, 1);
            recordEnds(life, 1, 0);
        }
    }

    private static void recordEnds(int life, int owner, int listener) {
        WhoIsThere x = Houses.ofRanks(5, 5);
        x.lie(owner, KIND, 1, 0, life);
        x.tick(1);
        x.lose(owner, 100);
        for (int left = life; left > 0; left--) {
            CHECK.due("life " + life + ", left", x.record(listener, 0, 2), left);
            CHECK.due("life " + life + ", told", x.record(listener, 0, 3), life);
            CHECK.due("life " + life + ", found", x.find(listener, KIND, 0, 0), 0);
            left -= skip(x, left);
            x.tick(1);
        }
        CHECK.due("life " + life + ", gone", x.record(listener, 0, 2), -1);
        CHECK.due("life " + life + ", not found", x.find(listener, KIND, 0, 0), -1);
        CHECK.due("life " + life + ", none", x.look(listener, 5), 0);
    }

    /** Lets most of a long life go by at once, so that the object is not used too often. */
    private static int skip(WhoIsThere x, int left) {
        if (left < 60) {
            return 0;
        }
        x.tick(50);
        return 50;
    }

    // e. The same, told anew in the last tick of its life
    private static void recordsEndUnlessToldAnew() {
        WhoIsThere x = Houses.ofRanks(5, 5);
        x.lie(0, KIND, 1, 0, 4);
        x.tick(1);
        x.lose(0, 1);
        x.tick(3);
        CHECK.due("told at 2, and lost", x.record(1, 0, 2), 1);
        x.tick(1);
        CHECK.due("told at 4, in its last tick", x.record(1, 0, 2), 4);
    }

    // e. A keeper may tell a life of one: it is believed for one tick.
    private static void recordsOfALifeOfOne() {
        WhoIsThere x = Houses.ofRanks(5, 5, 5, 5);
        x.deaf(3, 1);
        x.lie(0, KIND, 1, 0, 7);
        x.tick(1);
        x.lose(0, 100);
        x.keeper(1, true);
        x.ask(3, KIND, 0);
        x.tick(6);
        CHECK.due("told one at 6", x.record(3, 0, 3), 1);
        CHECK.due("one left", x.record(3, 0, 2), 1);
        x.tick(1);
        CHECK.due("gone", x.record(3, 0, 2), -1);
    }
}
