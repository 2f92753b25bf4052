/**
 * The edges that the terms name of names: who is the stronger, what yields and what it takes next, what is
 * false, what is a lie, and which of two records of one name stays. Each test begins with the words it tests.
 */
final class EdgesOfNamesTest {
    private static final Check CHECK = new Check();
    private static final int KIND = 3;
    private static final int GONE = 0;
    private static final int CLAIMING = 1;
    private static final int HELD = 2;

    public static void main(String[] args) {
        theGreaterRankThenTheLesserHost();
        ofTheSameHostTheLesserByRecords();
        ofTheSameHostTheLesserByClaims();
        ofTheSameHostTheGreaterByClaims();
        notItsOwnClaim();
        notItsOwnTelling();
        roundAboutFromTheLastToTheFirst();
        namesThatNoOtherServiceHas();
        namesOfClaimingOnesAreHad();
        namesOfGoneOnesAreFree();
        namesOfOtherHostsAreFree();
        itsOldOneIfThereIsNoneOther();
        claimingWithThreeClaimsLeft();
        aByeIfItWasHeld();
        aByeStaysIfItYieldsAgain();
        heldAtOnceByWhateverName();
        neverYields();
        whatAClaimDoes();
        whatATellingDoes();
        anotherNameDoesNothing();
        noneOfTheNamesOfItsHost();
        aLieAndNoMore();
        theRecordOfThatName();
        theRecordOfALaterService();
        noRecordAnyMore();
        whatIsLeftOutLeavesTheOlderRecord();
        oneRecordForEachService();
        CHECK.end("EdgesOfNamesTest");
    }

    // "that of the HOST with the greater RANK, of the same RANK that of the lesser HOST"
    private static void theGreaterRankThenTheLesserHost() {
        int[][] ranksAndWeaker = {{999, 1000, 0}, {1000, 999, 1}, {0, 1, 0}, {1, 0, 1}, {0, 0, 1}, {1000, 1000, 1}};
        for (int[] one : ranksAndWeaker) {
            WhoIsThere x = Houses.ofRanks(one[0], one[1]);
            x.offer(0, KIND, 4, 0, 20);
            x.offer(1, KIND, 4, 0, 20);
            x.tick(1);
            int weaker = one[2];
            String ranks = "ranks " + one[0] + " and " + one[1];
            CHECK.due(ranks + ": the weaker yields", x.service(weaker, 7), 1);
            CHECK.due(ranks + ": the stronger does not", x.service(1 - weaker, 7), 0);
        }
    }

    // "of the same HOST the lesser one": a record of service 0 stands against a telling of service 1.
    private static void ofTheSameHostTheLesserByRecords() {
        WhoIsThere x = Houses.ofRanks(5, 5);
        x.lie(0, KIND, 5, 0, 200);
        x.tick(1);
        x.drop(0);
        x.lose(0, 1);
        x.tick(1);
        x.lie(0, KIND, 5, 0, 200);
        x.tick(1);
        CHECK.due("the lesser one's record stays", x.record(1, 0, 0), 5);
        CHECK.due("the greater one has none", x.record(1, 1, 0), -1);
        CHECK.due("it was left out", x.count(7), 1);
    }

    /**
     * Host 0 on net 0, and bridges from net 0 to 1 and from 1 to 2. What host 0 writes at a tick comes to net
     * 2 two ticks later; if net 0 has joined net 2 by then, the host hears its own words.
     */
    private static WhoIsThere echoing() {
        WhoIsThere x = Houses.ofNets(0, 0, 1, 0);
        x.bridge(1, 1, Houses.ALL_KINDS);
        x.bridge(2, 2, Houses.ALL_KINDS);
        return x;
    }

    // "of the same HOST the lesser one": a claim of service 0, gone by then, comes back to service 1.
    private static void ofTheSameHostTheLesserByClaims() {
        WhoIsThere x = echoing();
        x.offer(0, KIND, 5, 0, 20);
        x.tick(1);
        x.drop(0);
        x.offer(0, KIND, 5, 0, 20);
        x.tick(1);
        x.join(2, 0);
        CHECK.due("not heard yet", x.service(1, 7), 0);
        x.tick(1);
        CHECK.due("the greater one yields", x.service(1, 7), 1);
        CHECK.due("to the next name", x.service(1, 1), 6);
    }

    // "of the same HOST the lesser one": a claim of service 1 comes back to service 0.
    private static void ofTheSameHostTheGreaterByClaims() {
        WhoIsThere x = new WhoIsThere();
        x.host(0, 4, 9, 5);
        x.host(0, 1, 1, 5);
        x.host(1, 1, 1, 5);
        x.host(0, 4, 4, 9);
        x.bridge(1, 1, Houses.ALL_KINDS);
        x.bridge(2, 2, Houses.ALL_KINDS);
        x.offer(0, KIND, 4, 0, 20);
        x.offer(0, KIND, 5, 0, 20);
        x.tick(1);
        x.drop(1);
        x.offer(3, KIND, 4, 0, 20);
        x.tick(1);
        CHECK.due("it yielded to the stronger host", x.service(0, 1), 5);
        x.join(2, 0);
        x.tick(1);
        CHECK.due("the lesser one keeps the name that the greater one claimed", x.service(0, 1), 5);
        CHECK.due("it yielded once", x.service(0, 7), 1);
    }

    // "for each that it speaks for then (by number; not s, not FALSE)", of a CLAIM
    private static void notItsOwnClaim() {
        WhoIsThere x = echoing();
        x.offer(0, KIND, 5, 0, 20);
        x.tick(2);
        x.join(2, 0);
        x.tick(2);
        CHECK.due("held, as its second claim comes back", x.service(0, 0), HELD);
        CHECK.due("the bridge wrote the first two back, the third on", x.look(2, 4), 3);
        CHECK.due("no answer to itself", x.look(0, 8), 0);
        CHECK.due("no yielding", x.service(0, 7), 0);
    }

    // "for each that it speaks for then (by number; not s, not FALSE)" and "If s is not its own", of a TELLING
    private static void notItsOwnTelling() {
        WhoIsThere x = echoing();
        x.offer(0, KIND, 5, 0, 20);
        x.tick(5);
        x.join(2, 0);
        x.tick(1);
        CHECK.due("its telling comes back, as the others on its net hear", x.record(3, 0, 3), 18);
        CHECK.due("no answer to itself", x.look(0, 8), 0);
        CHECK.due("no yielding", x.service(0, 7), 0);
        CHECK.due("no record of its own", x.look(0, 5), 0);
    }

    /** The name that a service takes next whose host has also the others, when a stronger one claims its name. */
    private static int nextName(int from, int to, int name, int... others) {
        WhoIsThere x = new WhoIsThere();
        x.host(0, from, to, 1);
        x.host(0, 1, 250, 9);
        x.deaf(1, 100);
        x.offer(0, KIND, name, 0, 20);
        for (int other : others) {
            x.lie(0, KIND, other, 0, 20);
        }
        x.offer(1, KIND, name, 0, 20);
        x.tick(1);
        CHECK.due("it yielded", x.service(0, 7), 1);
        CHECK.due("nothing else did", x.count(5), 1);
        return x.service(0, 1);
    }

    // "its NAME becomes the next one of its HOST's, round about from the last to the first"
    private static void roundAboutFromTheLastToTheFirst() {
        CHECK.due("the next of the first", nextName(5, 8, 5), 6);
        CHECK.due("up to the last", nextName(5, 8, 7), 8);
        CHECK.due("round about", nextName(5, 8, 8), 5);
        CHECK.due("from 1 to 2", nextName(1, 250, 1), 2);
        CHECK.due("up to 250", nextName(1, 250, 249), 250);
        CHECK.due("from 250 to 1", nextName(1, 250, 250), 1);
        CHECK.due("of two names", nextName(249, 250, 250), 249);
    }

    // "that no other SERVICE of the HOST that is not gone has"
    private static void namesThatNoOtherServiceHas() {
        CHECK.due("one is had", nextName(5, 8, 5, 6), 7);
        CHECK.due("two are had", nextName(5, 8, 5, 6, 7), 8);
        CHECK.due("the last is had", nextName(5, 8, 7, 8), 5);
        CHECK.due("last and first are had", nextName(5, 8, 7, 8, 5), 6);
        CHECK.due("the first is had", nextName(5, 8, 8, 5), 6);
        CHECK.due("had names that are none of its own", nextName(5, 8, 8, 4, 9), 5);
        CHECK.due("the one before it is left", nextName(5, 8, 6, 7, 8, 5), 6);
    }

    /** A weak host and a strong one, that hears nothing, with the names 5 to 8. */
    private static WhoIsThere weakAndStrong() {
        WhoIsThere x = new WhoIsThere();
        x.host(0, 5, 8, 1);
        x.host(0, 5, 8, 9);
        x.deaf(1, 100);
        return x;
    }

    // "that no other SERVICE of the HOST that is not gone has": such as only claim have names, too.
    private static void namesOfClaimingOnesAreHad() {
        WhoIsThere x = weakAndStrong();
        x.offer(0, KIND, 5, 0, 20);
        x.offer(0, KIND, 6, 0, 20);
        x.offer(1, KIND, 5, 0, 20);
        x.tick(1);
        CHECK.due("claimed by another of the host", x.service(0, 1), 7);
    }

    // "that is not gone"
    private static void namesOfGoneOnesAreFree() {
        WhoIsThere x = weakAndStrong();
        x.offer(0, KIND, 5, 0, 20);
        x.lie(0, KIND, 6, 0, 20);
        x.drop(1);
        x.offer(1, KIND, 5, 0, 20);
        x.tick(1);
        CHECK.due("the name of a gone one", x.service(0, 1), 6);
        CHECK.due("which still shows it", x.service(1, 1), 6);
        CHECK.due("being gone", x.service(1, 0), GONE);
    }

    // "no other SERVICE of the HOST"
    private static void namesOfOtherHostsAreFree() {
        WhoIsThere x = weakAndStrong();
        x.offer(0, KIND, 8, 0, 20);
        x.offer(1, KIND, 5, 0, 20);
        x.offer(1, KIND, 8, 0, 20);
        x.tick(1);
        CHECK.due("the name of another host's", x.service(0, 1), 5);
    }

    // "(its old one if there is none other)"
    private static void itsOldOneIfThereIsNoneOther() {
        CHECK.due("the host has one name", nextName(9, 9, 9), 9);
        CHECK.due("name 1 alone", nextName(1, 1, 1), 1);
        CHECK.due("name 250 alone", nextName(250, 250, 250), 250);
        CHECK.due("the other one is had", nextName(5, 6, 5, 6), 5);
        CHECK.due("the other one is had, the last", nextName(5, 6, 6, 5), 6);
        CHECK.due("three others are had", nextName(5, 8, 7, 5, 6, 8), 7);
    }

    // "it is CLAIMING with 3 CLAIMS left"
    private static void claimingWithThreeClaimsLeft() {
        WhoIsThere x = Houses.ofRanks(1, 9);
        x.deaf(1, 100);
        x.offer(0, KIND, 4, 0, 20);
        x.tick(2);
        CHECK.due("one left", x.service(0, 2), 1);
        x.offer(1, KIND, 4, 0, 20);
        x.tick(1);
        CHECK.due("claiming", x.service(0, 0), CLAIMING);
        CHECK.due("three left", x.service(0, 2), 3);
        x.tick(3);
        CHECK.due("none left", x.service(0, 2), 0);
        CHECK.due("not held yet", x.service(0, 0), CLAIMING);
        x.tick(1);
        CHECK.due("held", x.service(0, 0), HELD);
    }

    // "if it was HELD, it has a BYE"
    private static void aByeIfItWasHeld() {
        WhoIsThere x = Houses.ofRanks(1, 9);
        x.offer(0, KIND, 4, 0, 20);
        x.lie(1, KIND, 4, 0, 20);
        x.tick(1);
        CHECK.due("claiming ones yield", x.service(0, 7), 1);
        CHECK.due("without a bye", x.service(0, 6), 0);
        x.tick(4);
        CHECK.due("held", x.service(0, 0), HELD);
        x.drop(1);
        x.lie(1, KIND, 5, 0, 20);
        x.tick(1);
        CHECK.due("held ones yield", x.service(0, 7), 2);
        CHECK.due("with a bye", x.service(0, 6), 1);
        CHECK.due("no renewal", x.service(0, 5), -1);
        x.tick(1);
        CHECK.due("written", x.service(0, 6), 0);
    }

    // "if it was HELD, it has a BYE": which stays if it yields again before it is written
    private static void aByeStaysIfItYieldsAgain() {
        WhoIsThere x = Houses.ofRanks(1, 9);
        x.offer(0, KIND, 4, 0, 20);
        x.tick(4);
        x.lie(1, KIND, 4, 0, 20);
        x.lie(1, KIND, 5, 0, 20);
        x.tick(1);
        CHECK.due("twice in one tick", x.service(0, 7), 2);
        CHECK.due("its name", x.service(0, 1), 6);
        CHECK.due("a bye", x.service(0, 6), 1);
        CHECK.due("two yields", x.count(5), 2);
    }

    // "A FALSE one is HELD at once by whatever NAME"
    private static void heldAtOnceByWhateverName() {
        for (int name : new int[] {1, 9, 10, 20, 21, 250}) {
            WhoIsThere x = new WhoIsThere();
            x.host(2, 10, 20, 0);
            x.tick(3);
            CHECK.due("a lie of name " + name, x.lie(0, 15, name, 255, 200), 0);
            int[] due = {HELD, name, 0, 255, 0, 3, 0, 0};
            for (int what = 0; what < due.length; what++) {
                CHECK.due("false, name " + name + ", what " + what, x.service(0, what), due[what]);
            }
        }
    }

    // "and never yields": neither to a claim nor to a telling of the stronger; and "not FALSE", nor does it answer.
    private static void neverYields() {
        for (boolean told : new boolean[] {false, true}) {
            WhoIsThere x = Houses.ofRanks(0, 1000);
            x.lie(0, KIND, 4, 0, 20);
            x.deaf(1, 100);
            x.tick(1);
            add(x, 1, 4, told);
            x.tick(1);
            CHECK.due("false ones hold on", x.service(0, 0), HELD);
            CHECK.due("by that name", x.service(0, 1), 4);
            CHECK.due("no yields", x.count(5), 0);
            CHECK.due("no answer", x.look(0, 8), 0);
        }
    }

    private static void add(WhoIsThere x, int host, int name, boolean told) {
        if (told) {
            x.lie(host, KIND, name, 0, 40);
        } else {
            x.offer(host, KIND, name, 0, 40);
        }
    }

    /** Host 1, of rank 5, claims or holds name 4 as host 0 claims or tells it: whether it yields and answers. */
    private static void contest(int rivalRank, boolean held, boolean told, int yields, int answers) {
        WhoIsThere x = Houses.ofRanks(rivalRank, 5);
        x.deaf(0, 100);
        x.offer(1, KIND, 4, 0, 40);
        x.tick(held ? 4 : 1);
        add(x, 0, 4, told);
        x.tick(1);
        String which = "rank " + rivalRank + (told ? " tells" : " claims") + (held ? ", held" : ", claiming");
        CHECK.due(which + ": yields", x.service(0, 7), yields);
        CHECK.due(which + ": answers", x.look(1, 8), answers);
        CHECK.due(which + ": state", x.service(0, 0), held && yields == 0 ? HELD : CLAIMING);
        if (answers == 1) {
            CHECK.due(which + ": not told yet", x.service(0, 5), 23);
            x.tick(1);
            CHECK.due(which + ": told at t + 1, so its renewal is half its life later", x.service(0, 5), 25);
        }
    }

    // "if HELD, an ANSWER comes to be due at t + 1; if CLAIMING, it YIELDS if s is the STRONGER"
    private static void whatAClaimDoes() {
        contest(6, false, false, 1, 0);
        contest(5, false, false, 1, 0);
        contest(4, false, false, 0, 0);
        contest(6, true, false, 0, 1);
        contest(5, true, false, 0, 1);
        contest(4, true, false, 0, 1);
    }

    // "if CLAIMING, it YIELDS; if HELD and s the STRONGER, likewise; else an ANSWER comes to be due at t + 1"
    private static void whatATellingDoes() {
        contest(6, false, true, 1, 0);
        contest(5, false, true, 1, 0);
        contest(4, false, true, 1, 0);
        contest(6, true, true, 1, 0);
        contest(5, true, true, 1, 0);
        contest(4, true, true, 0, 1);
    }

    // "of that NAME"
    private static void anotherNameDoesNothing() {
        for (int name : new int[] {3, 5}) {
            for (boolean told : new boolean[] {false, true}) {
                WhoIsThere x = Houses.ofRanks(1000, 5);
                x.offer(1, KIND, 4, 0, 40);
                x.tick(4);
                x.offer(1, KIND, 8, 0, 40);
                add(x, 0, name, told);
                add(x, 0, name + 4, told);
                x.tick(1);
                CHECK.due("name " + name + ": no yields", x.count(5), 0);
                CHECK.due("name " + name + ": no answers", x.look(1, 8), 0);
            }
        }
    }

    // "if the NAME is none of the NAMES of its HOST, that is a LIE"
    private static void noneOfTheNamesOfItsHost() {
        int[][] namesAndLies = {{1, 1}, {9, 1}, {10, 0}, {11, 0}, {20, 0}, {21, 1}, {250, 1}};
        for (int[] one : namesAndLies) {
            WhoIsThere x = new WhoIsThere();
            x.host(0, 10, 20, 5);
            x.host(0, 1, 250, 5);
            x.lie(0, KIND, one[0], 0, 20);
            x.tick(1);
            CHECK.due("name " + one[0] + ": lies", x.count(6), one[1]);
            CHECK.due("name " + one[0] + ": records", x.look(1, 5), 1 - one[1]);
        }
    }

    // "that is a LIE, and no more": nothing yields or answers, and an answer for s stays.
    private static void aLieAndNoMore() {
        WhoIsThere x = new WhoIsThere();
        x.host(0, 1, 9, 5);
        x.host(0, 20, 29, 1000);
        x.offer(0, KIND, 4, 0, 40);
        x.tick(4);
        x.offer(0, KIND, 5, 0, 40);
        x.lie(1, KIND, 4, 0, 40);
        x.lie(1, KIND, 5, 0, 40);
        x.tick(1);
        CHECK.due("two lies", x.count(6), 2);
        CHECK.due("nothing yields", x.count(5), 0);
        CHECK.due("nothing answers", x.look(0, 8), 0);
        CHECK.due("nothing is believed", x.look(0, 5), 0);
        CHECK.due("nothing is left out", x.count(7), 0);
    }

    // "if it has a RECORD of that NAME of another SERVICE that is STRONGER than s, the TELLING is LEFT OUT; else
    // that RECORD is gone"
    private static void theRecordOfThatName() {
        int[][] ranksAndStays = {{5, 6, 1}, {6, 5, 0}, {5, 5, 0}, {0, 1000, 1}, {1000, 0, 0}};
        for (int[] one : ranksAndStays) {
            WhoIsThere x = Houses.ofRanks(one[0], one[1], 5);
            x.lie(0, KIND, 4, 0, 20);
            x.lie(1, KIND, 4, 0, 20);
            x.tick(1);
            int stays = one[2];
            String ranks = "ranks " + one[0] + " and " + one[1];
            CHECK.due(ranks + ": the record of the stronger", x.record(2, stays, 0), 4);
            CHECK.due(ranks + ": none of the weaker", x.record(2, 1 - stays, 0), -1);
            CHECK.due(ranks + ": one record", x.look(2, 5), 1);
            CHECK.due(ranks + ": left out", x.count(7), 1 - stays);
        }
    }

    // "a RECORD of that NAME of another SERVICE": of a greater number as of a lesser one
    private static void theRecordOfALaterService() {
        WhoIsThere x = Houses.ofRanks(9, 5, 5);
        x.lie(1, KIND, 4, 0, 20);
        x.lie(0, KIND, 4, 0, 20);
        x.tick(1);
        CHECK.due("host 0 told first of service 1, the stronger", x.record(2, 1, 0), 4);
        CHECK.due("service 0 was left out", x.count(7), 1);
        CHECK.due("one record", x.look(2, 5), 1);
    }

    // "if it has a RECORD": not one that is gone by a bye
    private static void noRecordAnyMore() {
        WhoIsThere x = Houses.ofRanks(9, 5, 5);
        x.lie(0, KIND, 4, 0, 200);
        x.tick(1);
        x.drop(0);
        x.tick(1);
        CHECK.due("gone", x.look(2, 5), 0);
        x.lie(1, KIND, 4, 0, 200);
        x.tick(1);
        CHECK.due("the weaker is believed", x.record(2, 1, 0), 4);
        CHECK.due("none left out", x.count(7), 0);
    }

    // "the TELLING is LEFT OUT": what was believed of s before is believed on.
    private static void whatIsLeftOutLeavesTheOlderRecord() {
        WhoIsThere x = new WhoIsThere();
        x.host(0, 4, 4, 8);
        x.host(0, 3, 4, 5);
        x.host(0, 1, 1, 5);
        x.host(0, 3, 3, 9);
        x.deaf(1, 1);
        x.lie(0, KIND, 4, 0, 200);
        x.tick(1);
        x.offer(1, KIND, 3, 0, 100);
        x.tick(4);
        CHECK.due("believed by name 3", x.record(2, 1, 0), 3);
        x.deaf(2, 1);
        x.lie(3, KIND, 3, 0, 200);
        x.tick(1);
        CHECK.due("it yielded to name 4", x.service(1, 1), 4);
        x.lose(1, 3);
        x.tick(3);
        x.deaf(1, 100);
        x.tick(1);
        CHECK.due("held by name 4", x.service(1, 0), HELD);
        // The two others heard it as well; of them host 0 has no record by that name.
        CHECK.due("left out for the stronger record, by hosts 2 and 3", x.count(7), 2);
        CHECK.due("still believed by name 3", x.record(2, 1, 0), 3);
        CHECK.due("as told at tick 4", x.record(2, 1, 2), 95);
        CHECK.due("host 0 believes it by name 4", x.record(0, 1, 0), 4);
    }

    // "THE STORE of a HOST has for each SERVICE of another HOST one RECORD at most"
    private static void oneRecordForEachService() {
        WhoIsThere x = Houses.ofRanks(1, 9, 5);
        x.offer(0, KIND, 4, 1, 40);
        x.tick(4);
        CHECK.due("by the first name", x.record(2, 0, 0), 4);
        x.deaf(2, 1);
        x.lie(1, KIND, 4, 0, 40);
        x.tick(1);
        x.lose(0, 3);
        x.tick(3);
        CHECK.due("the bye was lost", x.record(2, 0, 0), 4);
        x.change(0, 2);
        x.tick(1);
        int[] due = {5, 2, 40, 40};
        for (int what = 0; what < due.length; what++) {
            CHECK.due("by the second name alone, what " + what, x.record(2, 0, what), due[what]);
        }
        CHECK.due("one record", x.look(2, 5), 1);
        CHECK.due("the host itself has one of the other alone", x.look(0, 5), 1);
    }
}
