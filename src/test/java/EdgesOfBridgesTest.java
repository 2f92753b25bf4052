/**
 * The edges that the document names of bridges and of nets that join (3., b. to d.; promises 13 and 16). Each
 * test begins with the words it tests.
 */
final class EdgesOfBridgesTest {
    private static final Check CHECK = new Check();
    private static final int KIND = 3;
    private static final int ALL = Houses.ALL_KINDS;

    public static void main(String[] args) {
        ofItsKinds();
        neitherServicesNorAsksNorAStore();
        storeAndAnswersAreEmptyThen();
        fromEachNetToEachOther();
        whatKeepersTellFromEachNetToEachOther();
        inTheNextTickAndOnce();
        toItsHomeThenToItsSecond();
        nothingToCarry();
        homeLettersAreLostFirst();
        deafBridges();
        theFirstAskInATick();
        theFirstAskOfEachWay();
        theClaimHeardLast();
        allClaimsHeardLast();
        theTellingHeardLast();
        eachByItself();
        aLifeOneLess();
        notAtAllOfLifeOne();
        fourNetsInARow();
        ifTheyDoNotBearItsOtherNet();
        allNetsThatItBore();
        onceATickAndWay();
        noKeepersOfTheOtherNet();
        bridgesThatLeave();
        bridgesThatFall();
        joinMovesHomesAndSeconds();
        joinRenewsWhatIsHeld();
        joinWithAnEmptyNet();
        allNetsJoin();
        bothNetsAreOne();
        whatWaitsGoesWithTheNet();
        netsThatAreBorneStay();
        CHECK.end("EdgesOfBridgesTest");
    }

    /** An owner, 0, and an asker, 1, on net 0, a bridge, 2, to net 1, and a listener, 3, there. */
    private static WhoIsThere bridged(int kinds) {
        WhoIsThere x = Houses.ofNets(0, 0, 0, 1);
        x.bridge(2, 1, kinds);
        return x;
    }

    /** A claim, a telling, a bye and an ask of each kind are heard: how much the bridge takes up. */
    private static int takenUp(int kinds, int kind) {
        WhoIsThere x = bridged(kinds);
        x.lie(0, kind, 1, 0, 200);
        x.offer(0, kind, 2, 0, 200);
        x.tick(1);
        x.drop(0);
        x.drop(1);
        x.ask(1, kind, 0);
        x.tick(1);
        CHECK.due("letters were heard", x.count(3) - x.look(2, 4), 3);
        return x.count(10);
    }

    // d. "ASKS of its KINDS, CLAIMS, BYES, TELLINGS of SERVICES of its KINDS"; 13: "KINDS (bits, 0 to 65535)"
    private static void ofItsKinds() {
        for (int kind : new int[] {0, 1, 7, 8, 14, 15}) {
            CHECK.due("none: kind " + kind, takenUp(0, kind), 0);
            CHECK.due("that alone: kind " + kind, takenUp(1 << kind, kind), 4);
            CHECK.due("all but that: kind " + kind, takenUp(ALL - (1 << kind), kind), 0);
            CHECK.due("all: kind " + kind, takenUp(ALL, kind), 4);
        }
    }

    // WHO: "and neither SERVICES nor ASKS nor a STORE"; 13: "(Its STORE and ANSWERS are empty then.)"
    private static void neitherServicesNorAsksNorAStore() {
        WhoIsThere x = bridged(ALL);
        x.lie(0, KIND, 1, 0, 200);
        x.ask(1, KIND, 0);
        x.tick(3);
        CHECK.due("it took up what it heard", x.count(10), 2);
        CHECK.due("no service", x.offer(2, KIND, 21, 0, 4), -1);
        CHECK.due("no false one", x.lie(2, KIND, 21, 0, 4), -1);
        CHECK.due("no ask", x.ask(2, KIND, 0), false);
        CHECK.due("no records", x.look(2, 5), 0);
        CHECK.due("no asks wait", x.look(2, 7), 0);
        CHECK.due("no answers", x.look(2, 8), 0);
        CHECK.due("nothing found", x.find(2, KIND, 0, 0), -1);
        CHECK.due("nothing reached", x.reach(2, 0), -1);
    }

    // 13: "(Its STORE and ANSWERS are empty then.)"
    private static void storeAndAnswersAreEmptyThen() {
        WhoIsThere x = Houses.ofNets(0, 0, 0);
        x.deaf(2, 1);
        x.lie(0, KIND, 1, 0, 200);
        x.tick(1);
        x.keeper(1, true);
        x.ask(2, KIND, 0);
        x.tick(2);
        x.keeper(1, false);
        CHECK.due("a record", x.look(1, 5), 1);
        CHECK.due("an answer", x.look(1, 8), 1);
        CHECK.due("a bridge", x.bridge(1, 1, ALL), true);
        CHECK.due("no record", x.look(1, 5), 0);
        CHECK.due("no answer", x.look(1, 8), 0);
        x.tick(5);
        CHECK.due("nothing was told by it", x.look(1, 4), 0);
    }

    /** Hosts 0, 1 and 4 at home on one net, the listener, 3, on another; host 2 is a bridge, at home on either. */
    private static WhoIsThere across(int net, int other, boolean homeIsOther) {
        WhoIsThere x = Houses.ofNets(net, net, homeIsOther ? other : net, other, net);
        x.bridge(2, homeIsOther ? net : other, ALL);
        return x;
    }

    // d. "if they do not bear its other NET": what was written on a net bears that alone.
    private static void fromEachNetToEachOther() {
        for (int way = 0; way < 32; way++) {
            int net = way % 4;
            int other = way / 4 % 4;
            if (net != other) {
                fromOneToAnother(across(net, other, way >= 16), "net " + net + " to " + other);
            }
        }
    }

    private static void fromOneToAnother(WhoIsThere x, String way) {
        x.lie(0, KIND, 1, 0, 200);
        x.offer(0, KIND, 2, 0, 200);
        x.tick(1);
        CHECK.due(way + ": a telling and a claim are taken up", x.count(10), 2);
        x.drop(0);
        x.drop(1);
        x.ask(1, KIND, 0);
        x.tick(1);
        CHECK.due(way + ": a bye and an ask are", x.count(10), 4);
        CHECK.due(way + ": the telling is heard", x.record(3, 0, 3), 199);
        x.lie(3, KIND, 31, 0, 200);
        x.tick(1);
        CHECK.due(way + ": the bye is heard", x.look(3, 5), 0);
        CHECK.due(way + ": the ask is heard", x.look(3, 8), 1);
        CHECK.due(way + ": and something comes the other way", x.count(10), 5);
        x.tick(1);
        CHECK.due(way + ": which is heard", x.record(1, 2, 3), 199);
        CHECK.due(way + ": and that was all", x.count(10), 5);
    }

    // b. "TELLINGS: .. a KEEPER also of RECORDS": they bear the net that the keeper writes to, and no other.
    private static void whatKeepersTellFromEachNetToEachOther() {
        for (int way = 0; way < 32; way++) {
            int net = way % 4;
            int other = way / 4 % 4;
            if (net != other) {
                WhoIsThere x = across(net, other, way >= 16);
                x.deaf(4, 1);
                x.lie(0, KIND, 1, 0, 200);
                x.tick(4);
                x.fall(0);
                x.keeper(1, true);
                x.ask(4, KIND, 0);
                x.tick(3);
                CHECK.due("the keeper told at 6", x.look(1, 4), 1);
                x.tick(1);
                CHECK.due("carried from net " + net + " to " + other, x.record(3, 0, 3), 193);
            }
        }
    }

    // d. "it carries them there, in the next tick"
    private static void inTheNextTickAndOnce() {
        WhoIsThere x = bridged(ALL);
        x.lie(0, KIND, 1, 0, 200);
        x.tick(1);
        CHECK.due("not yet", x.look(3, 5), 0);
        CHECK.due("nothing written", x.look(2, 4), 0);
        x.tick(1);
        CHECK.due("in the next tick", x.record(3, 0, 2), 199);
        CHECK.due("one letter", x.look(2, 4), 1);
        x.tick(9);
        CHECK.due("and no more", x.look(2, 4), 1);
        CHECK.due("as told once", x.record(3, 0, 2), 190);
    }

    /** What is told on net 0, on net 1, or on both at tick 0: letters of the bridge at tick 1. */
    private static int lettersOfTheBridge(boolean onHome, boolean onSecond) {
        WhoIsThere x = bridged(ALL);
        if (onHome) {
            x.lie(0, KIND, 1, 0, 200);
        }
        if (onSecond) {
            x.lie(3, KIND, 31, 0, 200);
        }
        x.tick(2);
        CHECK.due("heard at home", x.look(0, 5), onSecond ? 1 : 0);
        CHECK.due("heard on the second net", x.look(3, 5), onHome ? 1 : 0);
        CHECK.due("letters in the latest tick", x.count(9), x.look(2, 4));
        return x.look(2, 4);
    }

    // b. "A BRIDGE writes what it carries (d.), to its home NET, then to its second one"
    private static void toItsHomeThenToItsSecond() {
        CHECK.due("to its second net alone", lettersOfTheBridge(true, false), 1);
        CHECK.due("to its home net alone", lettersOfTheBridge(false, true), 1);
        CHECK.due("to both", lettersOfTheBridge(true, true), 2);
    }

    // b. "if there is anything"
    private static void nothingToCarry() {
        CHECK.due("to neither", lettersOfTheBridge(false, false), 0);
    }

    // c. "of a BRIDGE that to its home NET first; if its HOST has LETTERS to LOSE, it is LOST (one less)"
    private static void homeLettersAreLostFirst() {
        for (int n = 0; n <= 3; n++) {
            WhoIsThere x = bridged(ALL);
            x.lie(0, KIND, 1, 0, 200);
            x.lie(3, KIND, 31, 0, 200);
            x.tick(1);
            x.lose(2, n);
            x.tick(1);
            CHECK.due("lost of " + n, x.count(4), Math.min(n, 2));
            CHECK.due("at home, of " + n, x.look(0, 5), n >= 1 ? 0 : 1);
            CHECK.due("on the second net, of " + n, x.look(3, 5), n >= 2 ? 0 : 1);
            CHECK.due("written all the same", x.look(2, 4), 2);
        }
    }

    // c. "one that is DEAF to some does not", of a bridge on either net
    private static void deafBridges() {
        WhoIsThere x = bridged(ALL);
        x.deaf(2, 2);
        x.lie(0, KIND, 1, 0, 200);
        x.lie(3, KIND, 31, 0, 200);
        x.tick(1);
        CHECK.due("deaf to both", x.count(10), 0);
        x.change(0, 1);
        x.change(1, 1);
        x.tick(1);
        CHECK.due("but not to more", x.count(10), 2);
    }

    // d. "of ASKS of a KIND the first in a tick alone"
    private static void theFirstAskInATick() {
        WhoIsThere x = Houses.ofNets(0, 0, 0, 1, 0, 0);
        x.bridge(2, 1, ALL);
        x.lie(3, KIND, 31, 1, 200);
        x.lie(3, KIND, 32, 2, 200);
        x.tick(1);
        x.lose(2, 1);
        x.ask(1, KIND, 1);
        x.ask(5, KIND, 2);
        x.tick(1);
        CHECK.due("two were asked at 1", x.look(1, 4) + x.look(5, 4), 2);
        CHECK.due("one is taken up", x.count(10), 3);
        x.tick(1);
        CHECK.due("the first, with its marks: one answer", x.look(3, 8), 1);
        x.tick(2);
        CHECK.due("told at 4", x.service(0, 5), 104);
        CHECK.due("the other is not", x.service(1, 5), 100);
        x.ask(5, KIND, 2);
        x.tick(2);
        CHECK.due("in another tick the other ask is the first", x.count(10), 5);
    }

    // d. "it carries them there": the first of each way, as each is heard on its net
    private static void theFirstAskOfEachWay() {
        WhoIsThere x = Houses.ofNets(0, 1, 0, 1, 1, 0);
        x.bridge(2, 1, ALL);
        x.tick(1);
        x.ask(1, KIND, 0);
        x.ask(5, KIND, 0);
        x.ask(1, KIND + 1, 0);
        x.tick(1);
        CHECK.due("two kinds one way, one the other", x.count(10), 3);
        x.tick(1);
        CHECK.due("two letters", x.count(9), 2);
    }

    /**
     * Host 0 claims 5 on net 1 at tick 4, and that claim goes by bridges 2 and 3 to net 2 and, at tick 6, to net
     * 0, which net 1 has joined by then; host 0, that had to yield, claims 6 there. Bridge 4, to net 3, hears
     * both in one tick, the older one last. On net 3 host 5 holds both names.
     */
    private static WhoIsThere twoClaimsOfOneService() {
        WhoIsThere x = new WhoIsThere();
        x.host(1, 5, 9, 5);
        x.host(1, 5, 9, 9);
        x.host(1, 1, 1, 5);
        x.host(2, 1, 1, 5);
        x.host(0, 1, 1, 5);
        x.host(3, 5, 9, 1);
        x.bridge(2, 2, 1 << KIND);
        x.bridge(3, 0, 1 << KIND);
        x.bridge(4, 3, 1 << KIND);
        x.offer(5, KIND + 1, 5, 0, 200);
        x.offer(5, KIND + 1, 6, 0, 200);
        x.tick(4);
        x.offer(0, KIND, 5, 0, 200);
        x.tick(1);
        x.deaf(2, 1);
        x.lie(1, KIND + 1, 5, 0, 200);
        x.tick(1);
        return x;
    }

    // d. "of CLAIMS .. of a SERVICE the one heard last"
    private static void theClaimHeardLast() {
        WhoIsThere x = twoClaimsOfOneService();
        CHECK.due("it yielded to 6", x.service(2, 1), 6);
        CHECK.due("its first claim was taken up twice", x.count(10), 2);
        x.join(0, 1);
        x.tick(1);
        CHECK.due("at 6 each bridge took up one", x.count(10), 5);
        x.tick(1);
        CHECK.due("carried at 7: one name is defended", x.look(5, 8), 1);
        x.tick(1);
        CHECK.due("that of the older one, heard last", x.service(0, 5), 108);
        CHECK.due("not the other", x.service(1, 5), 103);
        CHECK.due("till the next claim is carried, at 8", x.look(5, 8), 1);
        x.tick(1);
        CHECK.due("which is of the other", x.service(1, 5), 109);
    }

    /**
     * Hosts 1 to 8 on net 0 offer 32 services, two hosts each by the same four names; the weaker host of two, an
     * even one, yields all four at tick 0 and claims other names at tick 1. By one bridge the claims of tick 1
     * come to net 1 at tick 2; by two others, over net 3, those of tick 0. Bridge 10 hears both and carries one
     * of each service to net 2 at tick 3, as net 0 has joined it.
     */
    private static WhoIsThere twoClaimsOfEachService(boolean olderIsLast) {
        WhoIsThere x = new WhoIsThere();
        x.host(olderIsLast ? 0 : 3, 250, 250, 5);
        for (int h = 1; h <= 8; h++) {
            int first = 10 * ((h + 1) / 2);
            x.host(0, first, first + 7, h % 2 == 1 ? 9 : 5);
            for (int i = 0; i < 4; i++) {
                x.offer(h, i, first + i, 0, 200);
            }
        }
        x.host(0, 250, 250, 5);
        x.host(1, 250, 250, 5);
        x.host(olderIsLast ? 3 : 0, 250, 250, 5);
        x.bridge(0, 1, ALL);
        x.bridge(9, 3, ALL);
        x.bridge(10, 2, ALL);
        x.bridge(11, 1, ALL);
        return x;
    }

    // The same, of all SERVICES at once: "SERVICES, at most 32"
    private static void allClaimsHeardLast() {
        for (int last = 0; last <= 1; last++) {
            WhoIsThere x = twoClaimsOfEachService(last == 1);
            String way = last == 1 ? "older ones last: " : "newer ones last: ";
            x.tick(1);
            CHECK.due(way + "half of all yielded", x.count(5), 16);
            CHECK.due(way + "by two bridges on net 0", x.count(10), 64);
            x.tick(1);
            CHECK.due(way + "by these, by two on net 1, by one on net 3", x.count(10), 224);
            x.tick(1);
            x.join(2, 0);
            x.tick(1);
            for (int h = 1; h <= 8; h++) {
                boolean isAskedToDefend = last == 1 && h % 2 == 1;
                CHECK.due(way + "names claimed of host " + h, x.look(h, 8), isAskedToDefend ? 4 : 0);
            }
            x.tick(1);
            for (int s = 0; s < 32; s++) {
                int told = last == 1 || s / 4 % 2 == 1 ? 4 : 3;
                CHECK.due(way + "renewal of " + s, x.service(s, 5), told + 100);
            }
            CHECK.due(way + "none yields any more", x.count(5), 16);
        }
    }

    /** A keeper's telling and the owner's are heard in one tick; the order is that of the hosts. */
    private static WhoIsThere twoTellings(int owner, int keeper) {
        WhoIsThere x = Houses.ofNets(0, 0, 0, 1, 0, 0, 0, 0);
        x.bridge(2, 1, ALL);
        x.deaf(6, 1);
        x.lie(owner, KIND, 10 * owner + 1, 1, 100);
        x.tick(2);
        x.keeper(keeper, true);
        x.ask(6, KIND, 0);
        x.tick(4);
        CHECK.due("the keeper's answer is due at 6", x.look(keeper, 8), 1);
        x.change(0, 2);
        x.tick(1);
        CHECK.due("both told at 6", x.count(9), 2);
        x.tick(1);
        return x;
    }

    // d. "of .. TELLINGS .. of a SERVICE the one heard last"
    private static void theTellingHeardLast() {
        WhoIsThere x = twoTellings(0, 1);
        CHECK.due("the keeper's life, one less", x.record(3, 0, 3), 93);
        CHECK.due("the keeper's marks", x.record(3, 0, 1), 1);
        x = twoTellings(4, 1);
        CHECK.due("the owner's life, one less", x.record(3, 0, 3), 99);
        CHECK.due("the owner's marks", x.record(3, 0, 1), 2);
    }

    // d. "CLAIMS, BYES, TELLINGS (each by itself)"
    private static void eachByItself() {
        WhoIsThere x = Houses.ofNets(0, 0, 0, 1, 0);
        x.bridge(2, 1, ALL);
        x.deaf(4, 1);
        x.lie(0, KIND, 1, 0, 200);
        x.tick(4);
        x.keeper(1, true);
        x.ask(4, KIND, 0);
        x.tick(2);
        x.drop(0);
        int before = x.count(10);
        x.tick(1);
        CHECK.due("a bye and a telling of one service", x.count(10) - before, 2);
        x.tick(1);
        CHECK.due("the telling is heard behind the bye", x.look(3, 5), 1);
    }

    // d. "a TELLING with a life one less"
    private static void aLifeOneLess() {
        WhoIsThere x = bridged(ALL);
        x.lie(0, KIND, 1, 0, 4);
        x.tick(2);
        CHECK.due("of the shortest life", x.record(3, 0, 3), 3);
        x = bridged(ALL);
        x.lie(0, KIND, 1, 0, 200);
        x.tick(2);
        CHECK.due("of the longest life", x.record(3, 0, 3), 199);
    }

    // d. "(one of life 1 not at all)": a keeper tells six less than the life at tick 6.
    private static void notAtAllOfLifeOne() {
        for (int life = 7; life <= 9; life++) {
            WhoIsThere x = Houses.ofNets(0, 0, 0, 0, 1);
            x.bridge(2, 1, ALL);
            x.deaf(3, 1);
            x.lie(0, KIND, 1, 0, life);
            x.tick(1);
            x.lose(0, 100);
            x.keeper(1, true);
            x.ask(3, KIND, 0);
            x.tick(5);
            int before = x.count(10);
            x.tick(1);
            CHECK.due("the keeper told " + (life - 6), x.record(3, 0, 3), life - 6);
            CHECK.due("taken up of " + (life - 6), x.count(10) - before, life == 7 ? 0 : 1);
            x.tick(1);
            CHECK.due("carried of " + (life - 6), x.record(4, 0, 3), life == 7 ? -1 : life - 7);
        }
    }

    // d. A life of 4 becomes 3, 2 and 1 on the way to the fourth net, where it is believed for a tick.
    private static void fourNetsInARow() {
        WhoIsThere x = Houses.ofNets(0, 0, 1, 2, 3, 1, 2);
        for (int h = 1; h <= 3; h++) {
            x.bridge(h, h, ALL);
        }
        x.lie(0, KIND, 1, 0, 4);
        x.tick(1);
        x.lose(0, 100);
        x.tick(3);
        CHECK.due("on net 1", x.record(5, 0, 3), 3);
        CHECK.due("on net 2", x.record(6, 0, 3), 2);
        CHECK.due("on net 3", x.record(4, 0, 3), 1);
        CHECK.due("one left", x.record(4, 0, 2), 1);
        CHECK.due("taken up three times", x.count(10), 3);
        x.tick(1);
        CHECK.due("gone", x.look(4, 5), 0);
    }

    // d. "if they do not bear its other NET": two bridges between the same nets hear each other.
    private static void ifTheyDoNotBearItsOtherNet() {
        WhoIsThere x = Houses.ofNets(0, 0, 1, 1);
        x.bridge(1, 1, ALL);
        x.bridge(2, 0, ALL);
        x.offer(0, KIND, 1, 0, 200);
        x.ask(0, KIND, 0);
        x.tick(5);
        CHECK.due("an ask, three claims and a telling, by each", x.count(10), 10);
        x.drop(0);
        x.tick(5);
        CHECK.due("and a bye", x.count(10), 12);
    }

    // b. "what a BRIDGE carries, all NETS that it bore as well": round four nets it stops where both ways meet.
    private static void allNetsThatItBore() {
        WhoIsThere x = Houses.ofNets(0, 0, 1, 2, 3);
        x.bridge(1, 1, ALL);
        x.bridge(2, 2, ALL);
        x.bridge(3, 3, ALL);
        x.bridge(4, 0, ALL);
        x.lie(0, KIND, 1, 0, 200);
        x.tick(1);
        CHECK.due("two ways", x.count(10), 2);
        x.tick(1);
        CHECK.due("on nets 1 and 3", x.count(10), 4);
        x.tick(1);
        CHECK.due("on net 2, both", x.count(10), 6);
        x.tick(1);
        CHECK.due("on nets 3 and 1 again, and no further", x.count(10), 6);
        CHECK.due("letters", x.count(3), 7);
        x.tick(5);
        CHECK.due("no more of them", x.count(3), 7);
    }

    // 24: "once a tick and way"
    private static void onceATickAndWay() {
        WhoIsThere x = Houses.ofNets(0, 0, 0, 1, 0);
        x.bridge(2, 1, ALL);
        x.deaf(4, 1);
        x.lie(0, KIND, 1, 0, 200);
        x.tick(4);
        CHECK.due("told once", x.count(10), 1);
        x.keeper(1, true);
        x.ask(4, KIND, 0);
        x.tick(2);
        CHECK.due("an ask", x.count(10), 2);
        x.change(0, 1);
        x.tick(1);
        CHECK.due("told by two in one tick", x.count(10), 3);
        x.change(0, 2);
        x.tick(1);
        CHECK.due("told in the next tick", x.count(10), 4);
    }

    /** Host 1 on net 0 asks for what host 3 has on net 1, where the ask is heard at tick 2. */
    private static WhoIsThere askAcross(int keeper) {
        WhoIsThere x = Houses.ofNets(0, 0, 0, 1, 1);
        x.bridge(2, 1, ALL);
        x.lie(3, KIND, 31, 0, 200);
        x.tick(1);
        x.lose(2, 1);
        x.keeper(keeper, true);
        x.ask(1, KIND, 0);
        x.tick(2);
        return x;
    }

    // d. "a KEEPER .. at home on the NET": that of the bridge's letter
    private static void noKeepersOfTheOtherNet() {
        CHECK.due("a keeper on net 0 hinders nobody on net 1", askAcross(0).look(3, 8), 1);
        CHECK.due("one on net 1 does", askAcross(4).look(3, 8), 0);
        CHECK.due("and answers", askAcross(4).look(4, 8), 1);
    }

    // b. "A HOST that LEAVES writes BYES alone, and is gone then": a bridge has none of its own.
    private static void bridgesThatLeave() {
        WhoIsThere x = bridged(ALL);
        x.lie(0, KIND, 1, 0, 200);
        x.tick(1);
        CHECK.due("a bridge leaves", x.leave(2), true);
        CHECK.due("it does", x.look(2, 0), 3);
        x.change(0, 1);
        x.tick(1);
        CHECK.due("it writes nothing", x.look(2, 4), 0);
        CHECK.due("it takes up nothing", x.count(10), 1);
        CHECK.due("gone", x.look(2, 0), 0);
        CHECK.due("its second net is as it was", x.look(2, 2), 1);
    }

    // 10: "gone at once, without a word"
    private static void bridgesThatFall() {
        WhoIsThere x = bridged(ALL);
        x.lie(0, KIND, 1, 0, 200);
        x.tick(1);
        CHECK.due("a bridge falls", x.fall(2), true);
        x.change(0, 1);
        x.tick(2);
        CHECK.due("it writes nothing", x.look(2, 4), 0);
        CHECK.due("it takes up nothing", x.count(10), 1);
        CHECK.due("nothing is heard", x.look(3, 5), 0);
    }

    // 16: "All that is on NET b (home or second, HOSTS that are gone, too) is on NET a from now on"
    private static void joinMovesHomesAndSeconds() {
        WhoIsThere x = Houses.ofNets(1, 1, 2, 1, 1, 3, 2, 0);
        x.bridge(2, 1, ALL);
        x.bridge(4, 3, ALL);
        x.bridge(6, 1, ALL);
        x.sleep(1, 0);
        x.leave(3);
        x.tick(1);
        x.fall(4);
        x.fall(6);
        x.join(0, 1);
        int[] homes = {0, 0, 2, 0, 0, 3, 2, 0};
        int[] seconds = {-1, -1, 0, -1, 3, -1, 0, -1};
        for (int h = 0; h < homes.length; h++) {
            CHECK.due("home of " + h, x.look(h, 1), homes[h]);
            CHECK.due("second of " + h, x.look(h, 2), seconds[h]);
        }
        CHECK.due("the sleeper sleeps on", x.look(1, 3), 0);
        CHECK.due("who comes to net 1 now is there", x.look(x.host(1, 1, 9, 5), 1), 1);
    }

    // 16: "RENEWAL is now of all that is HELD, of HOSTS at home on a then"
    private static void joinRenewsWhatIsHeld() {
        WhoIsThere x = Houses.ofNets(0, 1, 2, 1, 0);
        x.lie(0, KIND, 1, 0, 200);
        x.lie(1, KIND, 11, 0, 200);
        x.lie(2, KIND, 21, 0, 200);
        x.lie(3, KIND, 31, 0, 200);
        x.offer(4, KIND, 41, 0, 200);
        x.lie(4, KIND, 42, 0, 200);
        x.tick(2);
        x.sleep(3, 1);
        x.drop(5);
        x.join(0, 1);
        int[] renewals = {2, 2, 100, 2, -1, -1};
        for (int s = 0; s < renewals.length; s++) {
            CHECK.due("renewal of " + s, x.service(s, 5), renewals[s]);
        }
        x.tick(1);
        CHECK.due("told, the sleeper's too", x.look(4, 5), 3);
    }

    // 16: a net on which nobody is joins, and is joined.
    private static void joinWithAnEmptyNet() {
        WhoIsThere x = Houses.ofNets(0, 0);
        x.lie(0, KIND, 1, 0, 200);
        x.tick(2);
        CHECK.due("nobody on b", x.join(0, 3), true);
        CHECK.due("what is held on a is renewed all the same", x.service(0, 5), 2);
        x.tick(2);
        CHECK.due("nobody on a", x.join(3, 0), true);
        CHECK.due("all are there", x.look(0, 1) + x.look(1, 1), 6);
        CHECK.due("renewed", x.service(0, 5), 4);
        x.tick(2);
        CHECK.due("nobody on either", x.join(1, 2), true);
        CHECK.due("renewed as before", x.service(0, 5), 104);
        CHECK.due("in an empty house", new WhoIsThere().join(0, 3), true);
    }

    // 16: till all are on one net
    private static void allNetsJoin() {
        WhoIsThere x = Houses.ofNets(0, 1, 2, 3);
        for (int h = 0; h < 4; h++) {
            x.lie(h, KIND, 10 * h + 1, 0, 200);
        }
        x.tick(1);
        CHECK.due("all apart", x.look(0, 5) + x.look(1, 5) + x.look(2, 5) + x.look(3, 5), 0);
        for (int net = 1; net <= 3; net++) {
            CHECK.due("join", x.join(net, net - 1), true);
        }
        x.tick(1);
        for (int h = 0; h < 4; h++) {
            CHECK.due("home", x.look(h, 1), 3);
            CHECK.due("all hear one another", x.look(h, 5), 3);
        }
    }

    // 16: "a BRIDGE both of whose NETS are one writes and hears nothing any more"
    private static void bothNetsAreOne() {
        for (int a = 0; a <= 1; a++) {
            WhoIsThere x = bridged(ALL);
            x.lie(0, KIND, 1, 0, 200);
            x.lie(3, KIND, 31, 0, 200);
            x.tick(1);
            x.join(a, 1 - a);
            CHECK.due("home", x.look(2, 1), a);
            CHECK.due("second", x.look(2, 2), a);
            x.tick(1);
            CHECK.due("it does not write what waited", x.look(2, 4), 0);
            CHECK.due("it hears nothing", x.count(10), 2);
            CHECK.due("those on the net hear one another", x.record(3, 0, 3), 200);
            x.join(2, a);
            x.tick(2);
            CHECK.due("nor on another net later", x.look(2, 4) + x.look(2, 2), 2);
            CHECK.due("it is still a bridge", x.bridge(2, 3, ALL), false);
            CHECK.due("and may leave", x.leave(2), true);
        }
    }

    // 16: "from now on": what waits to be carried to b goes to a.
    private static void whatWaitsGoesWithTheNet() {
        WhoIsThere x = Houses.ofNets(0, 0, 0, 1, 2);
        x.bridge(2, 1, ALL);
        x.lie(0, KIND, 1, 0, 200);
        x.tick(1);
        x.join(2, 1);
        x.tick(1);
        CHECK.due("heard by one on b before", x.record(3, 0, 3), 199);
        CHECK.due("heard by one on a before", x.record(4, 0, 3), 199);
        x.change(0, 7);
        x.tick(2);
        CHECK.due("the bridge goes on", x.record(4, 0, 1), 7);
    }

    // 16: "(NETS that are borne stay as they are)"
    private static void netsThatAreBorneStay() {
        WhoIsThere x = Houses.ofNets(0, 0, 1, 2);
        x.bridge(1, 1, ALL);
        x.bridge(2, 2, ALL);
        x.lie(0, KIND, 1, 0, 200);
        x.tick(2);
        CHECK.due("taken up twice", x.count(10), 2);
        x.join(3, 0);
        x.lose(0, 1);
        x.bridge(3, 3, ALL);
        x.tick(1);
        CHECK.due("what bears 0, 1 and 2 goes to net 3, that was 0", x.count(10), 3);
        x.tick(1);
        CHECK.due("and from there no further", x.count(10), 3);
    }
}
