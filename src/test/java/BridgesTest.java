/** What bridges hear, carry and write (promises 13 and 16, terms b. to d.), and what is counted of it. */
final class BridgesTest {
    private static final Check CHECK = new Check();
    private static final int KIND = 3;
    private static final int ALL = Houses.ALL_KINDS;

    public static void main(String[] args) {
        tellingsLoseALifeAtEachBridge();
        nothingGoesBack();
        asksAndAnswersCross();
        whatIsKnownCrosses();
        theFirstAskOfAKindAlone();
        claimsCross();
        byesCross();
        otherKindsStay();
        liesAreCarried();
        joinedNetsNeedNoBridge();
        netsBorneStay();
        CHECK.end("BridgesTest");
    }

    private static void tellingsLoseALifeAtEachBridge() {
        WhoIsThere x = Houses.ofNets(0, 0, 1, 2, 1);
        x.bridge(1, 1, ALL);
        x.bridge(2, 2, ALL);
        x.lie(0, KIND, 1, 6, 20);
        x.tick(1);
        CHECK.due("d: taken up", x.count(10), 1);
        CHECK.due("d: not carried yet", x.record(4, 0, 3), -1);
        x.tick(1);
        CHECK.due("d: one less", x.record(4, 0, 3), 19);
        CHECK.due("d: left", x.record(4, 0, 2), 19);
        CHECK.due("d: marks", x.record(4, 0, 1), 6);
        CHECK.due("d: taken up by the next", x.count(10), 2);
        x.tick(1);
        CHECK.due("d: two less", x.record(3, 0, 3), 18);
        CHECK.due("d: its name", x.record(3, 0, 0), 1);
        CHECK.due("b: a letter each", x.count(3), 3);
        CHECK.due("b: of the bridge", x.look(2, 4), 1);
        x.tick(3);
        CHECK.due("d: once", x.count(3), 3);
        CHECK.due("22: reached over nets", x.reach(3, 0), 1);
    }

    private static void nothingGoesBack() {
        WhoIsThere x = Houses.ofNets(0, 0, 0, 1);
        x.bridge(1, 1, ALL);
        x.bridge(2, 1, ALL);
        x.lie(0, KIND, 1, 0, 20);
        x.tick(5);
        CHECK.due("d: each took it up once", x.count(10), 2);
        CHECK.due("d: three letters", x.count(3), 3);
        CHECK.due("d: heard", x.record(3, 0, 3), 19);
        x = Houses.ofNets(0, 0, 0, 1);
        x.bridge(1, 1, ALL);
        x.bridge(2, 1, ALL);
        x.offer(0, KIND, 1, 0, 100);
        x.ask(0, KIND, 0);
        x.tick(4);
        x.drop(0);
        x.tick(4);
        CHECK.due("d: an ask, three claims, a telling, a bye, by each", x.count(10), 12);
    }

    private static void asksAndAnswersCross() {
        WhoIsThere x = Houses.ofNets(0, 0, 0, 1);
        x.bridge(2, 1, ALL);
        x.lie(0, KIND, 1, 4, 100);
        x.tick(1);
        x.lose(2, 1);
        x.tick(1);
        CHECK.due("c: the bridge's letter is lost", x.count(4), 1);
        x.ask(3, KIND, 4);
        x.tick(2);
        CHECK.due("d: an ask is taken up", x.count(10), 2);
        CHECK.due("d: not heard yet", x.look(0, 8), 0);
        x.tick(1);
        CHECK.due("d: heard at home of the bridge", x.look(0, 8), 1);
        x.tick(1);
        CHECK.due("d: told", x.record(1, 0, 2), 100);
        x.tick(1);
        CHECK.due("d: and carried back", x.record(3, 0, 2), 99);
    }

    private static void whatIsKnownCrosses() {
        WhoIsThere x = Houses.ofNets(0, 0, 0, 1);
        x.bridge(2, 1, ALL);
        x.lie(0, KIND, 1, 4, 100);
        x.tick(2);
        CHECK.due("d: it has a record", x.record(3, 0, 3), 99);
        x.ask(3, KIND, 4);
        x.tick(3);
        CHECK.due("d: the ask crossed", x.count(10), 2);
        CHECK.due("d: with what is known", x.look(0, 8), 0);
    }

    private static void theFirstAskOfAKindAlone() {
        WhoIsThere x = Houses.ofNets(0, 0, 0, 1, 2, 2, 2, 1);
        x.bridge(2, 1, ALL);
        x.lie(0, KIND, 1, 1, 100);
        x.lie(0, KIND, 2, 2, 100);
        x.lie(0, 4, 3, 2, 100);
        x.tick(1);
        x.lose(2, 1);
        x.ask(3, KIND, 1);
        x.ask(7, KIND, 2);
        x.ask(7, 4, 2);
        x.tick(3);
        CHECK.due("d: of each kind one", x.count(10), 5);
        x.tick(1);
        CHECK.due("d: the first one, and that of the other kind", x.look(0, 8), 2);
        x.tick(2);
        CHECK.due("d: with its marks", x.record(7, 0, 1), 1);
        CHECK.due("d: not the second", x.record(7, 1, 1), -1);
        CHECK.due("d: the other kind", x.record(7, 2, 1), 2);
    }

    private static void claimsCross() {
        WhoIsThere x = new WhoIsThere();
        x.host(0, 1, 9, 5);
        x.host(0, 1, 9, 5);
        x.host(1, 1, 9, 8);
        x.offer(2, KIND, 1, 0, 20);
        x.tick(5);
        x.bridge(1, 1, ALL);
        x.offer(0, KIND, 1, 0, 20);
        x.tick(2);
        CHECK.due("d: a claim heard over the bridge is answered", x.look(2, 8), 1);
        CHECK.due("d: two claims taken up", x.count(10), 2);
        x.tick(2);
        CHECK.due("d: held, then told of a stronger one: it yields", x.service(1, 1), 2);
        CHECK.due("d: with a bye", x.service(1, 6), 1);
        CHECK.due("d: what was told over the bridge", x.record(0, 0, 3), 19);
    }

    private static void byesCross() {
        WhoIsThere x = Houses.ofNets(0, 0, 1);
        x.bridge(1, 1, ALL);
        x.lie(0, KIND, 1, 0, 50);
        x.tick(2);
        x.drop(0);
        x.tick(1);
        CHECK.due("d: still believed", x.record(2, 0, 0), 1);
        CHECK.due("d: a bye is taken up", x.count(10), 2);
        x.tick(1);
        CHECK.due("d: the bye is heard", x.record(2, 0, 0), -1);
    }

    private static void otherKindsStay() {
        WhoIsThere x = Houses.ofNets(0, 0, 1, 1);
        x.bridge(1, 1, ALL & ~(1 << KIND));
        x.lie(0, KIND, 1, 0, 50);
        x.offer(0, KIND, 2, 0, 50);
        x.lie(0, 15, 3, 0, 50);
        x.ask(3, KIND, 0);
        x.tick(4);
        x.drop(0);
        x.tick(2);
        CHECK.due("d: of its kinds alone", x.count(10), 1);
        CHECK.due("d: heard", x.record(2, 2, 0), 3);
        CHECK.due("d: not heard", x.record(2, 0, 0), -1);
        CHECK.due("d: no answers", x.look(0, 8), 0);
    }

    private static void liesAreCarried() {
        WhoIsThere x = Houses.ofNets(0, 0, 1);
        x.bridge(1, 1, ALL);
        x.lie(0, KIND, 99, 0, 20);
        x.tick(1);
        CHECK.due("d: a bridge minds no lies", x.count(6), 0);
        x.tick(1);
        CHECK.due("d: a lie over the bridge", x.count(6), 1);
        CHECK.due("d: no record", x.look(2, 5), 0);
    }

    private static void joinedNetsNeedNoBridge() {
        WhoIsThere x = Houses.ofNets(0, 0, 1);
        x.bridge(1, 1, ALL);
        x.lie(0, KIND, 1, 0, 20);
        x.tick(1);
        x.join(1, 0);
        CHECK.due("16: both nets are one", x.look(1, 2), x.look(1, 1));
        x.tick(1);
        CHECK.due("16: it writes nothing any more", x.look(1, 4), 0);
        CHECK.due("16: it hears nothing any more", x.count(10), 1);
        CHECK.due("16: who is on one net hears", x.record(2, 0, 3), 20);
        x.leave(1);
        x.tick(1);
        CHECK.due("11: it leaves all the same", x.look(1, 0), 0);
    }

    private static void netsBorneStay() {
        WhoIsThere x = Houses.ofNets(0, 0, 1, 2);
        x.bridge(1, 1, ALL);
        x.bridge(2, 2, ALL);
        x.bridge(3, 0, ALL);
        x.lie(0, KIND, 1, 0, 50);
        x.tick(2);
        CHECK.due("d: both ways round", x.count(10), 4);
        x.tick(2);
        CHECK.due("d: and no further", x.count(10), 4);
        x = Houses.ofNets(0, 0, 1, 2);
        x.bridge(1, 1, ALL);
        x.bridge(2, 2, ALL);
        x.bridge(3, 0, ALL);
        x.lie(0, KIND, 1, 0, 50);
        x.tick(2);
        x.join(3, 0);
        x.tick(1);
        CHECK.due("16: net 3 is borne by none of them", x.count(10), 8);
    }
}
