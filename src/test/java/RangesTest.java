import java.util.function.IntPredicate;

/**
 * Every number that a call takes: the least and the greatest one that is taken, all between them where
 * those are few, and on both sides those that are refused, the nearest ones and far ones. The house is
 * made anew for each.
 */
final class RangesTest {
    private static final Check CHECK = new Check();
    private static final int NONE = WhoIsThere.NONE;
    /** Wide enough to show a number that is taken for another by its low bits. */
    private static final int BESIDE = 64;

    public static void main(String[] args) {
        promise2Host();
        promise3Offer();
        promise4Lie();
        promises5And6();
        promise7Ask();
        promises8To12();
        promise13Bridge();
        promises14And15();
        promises16And17();
        promise18Find();
        promises19And20();
        promises21And22();
        promises23And24();
        CHECK.end("RangesTest");
    }

    private static void range(String what, int least, int most, IntPredicate takes) {
        int step = most - least > 1000 ? most - least : 1;
        for (int number = least; number <= most; number += step) {
            CHECK.due(what + " " + number, takes.test(number), true);
        }
        for (int beside = 1; beside <= BESIDE; beside++) {
            CHECK.due(what + " " + (least - beside), takes.test(least - beside), false);
            CHECK.due(what + " " + (most + beside), takes.test(most + beside), false);
        }
        int[] farOff = {256, 512, 65536, 1 << 30, Integer.MAX_VALUE, Integer.MIN_VALUE, -256, -65536};
        for (int far : farOff) {
            if (far < least || far > most) {
                CHECK.due(what + " " + far, takes.test(far), false);
            }
        }
    }

    /** A number of which any is too great. */
    private static void refused(String what, IntPredicate takes) {
        for (int number : new int[] {Integer.MIN_VALUE, -1, 0, 1, Integer.MAX_VALUE}) {
            CHECK.due(what + " " + number, takes.test(number), false);
        }
    }

    /** Two plain hosts on net 0, each with a service that is held and told; the names are 1 to 9. */
    private static WhoIsThere two() {
        WhoIsThere x = Houses.ofRanks(5, 5);
        x.lie(0, 3, 1, 255, 40);
        x.lie(1, 3, 2, 255, 40);
        x.tick(1);
        return x;
    }

    private static WhoIsThere oneAsleep() {
        WhoIsThere x = two();
        x.sleep(0, 1);
        return x;
    }

    private static void promise2Host() {
        range("2: net", 0, 3, n -> new WhoIsThere().host(n, 1, 2, 0) != NONE);
        range("2: from", 1, 250, n -> new WhoIsThere().host(0, n, 250, 0) != NONE);
        range("2: to", 1, 250, n -> new WhoIsThere().host(0, 1, n, 0) != NONE);
        range("2: from, up to 7", 1, 7, n -> new WhoIsThere().host(0, n, 7, 0) != NONE);
        range("2: to, from 7 on", 7, 250, n -> new WhoIsThere().host(0, 7, n, 0) != NONE);
        range("2: rank", 0, 1000, n -> new WhoIsThere().host(0, 1, 2, n) != NONE);
    }

    private static void promise3Offer() {
        range("3: host", 0, 1, n -> two().offer(n, 0, 5, 0, 4) != NONE);
        refused("3: host, none there", n -> new WhoIsThere().offer(n, 0, 5, 0, 4) != NONE);
        range("3: kind", 0, 15, n -> two().offer(0, n, 5, 0, 4) != NONE);
        range("3: name", 2, 9, n -> two().offer(0, 0, n, 0, 4) != NONE);
        range("3: name of one", 250, 250, n -> {
            WhoIsThere x = new WhoIsThere();
            x.host(0, 250, 250, 0);
            return x.offer(0, 0, n, 0, 4) != NONE;
        });
        range("3: marks", 0, 255, n -> two().offer(0, 0, 5, n, 4) != NONE);
        range("3: life", 4, 200, n -> two().offer(0, 0, 5, 0, n) != NONE);
    }

    private static void promise4Lie() {
        range("4: host", 0, 1, n -> two().lie(n, 0, 5, 0, 4) != NONE);
        refused("4: host, none there", n -> new WhoIsThere().lie(n, 0, 5, 0, 4) != NONE);
        range("4: kind", 0, 15, n -> two().lie(0, n, 5, 0, 4) != NONE);
        range("4: name", 1, 250, n -> Houses.ofNets(0).lie(0, 0, n, 0, 4) != NONE);
        range("4: name above the one it has", 2, 250, n -> two().lie(0, 0, n, 0, 4) != NONE);
        range("4: marks", 0, 255, n -> two().lie(0, 0, 5, n, 4) != NONE);
        range("4: life", 4, 200, n -> two().lie(0, 0, 5, 0, n) != NONE);
    }

    private static void promises5And6() {
        range("5: service", 0, 1, n -> two().drop(n));
        refused("5: service, none there", n -> new WhoIsThere().drop(n));
        range("6: service", 0, 1, n -> two().change(n, 1));
        refused("6: service, none there", n -> new WhoIsThere().change(n, 1));
        range("6: marks", 0, 255, n -> two().change(0, n));
    }

    private static void promise7Ask() {
        range("7: host", 0, 1, n -> two().ask(n, 0, 0));
        refused("7: host, none there", n -> new WhoIsThere().ask(n, 0, 0));
        range("7: kind", 0, 15, n -> two().ask(0, n, 0));
        range("7: marks", 0, 255, n -> two().ask(0, 0, n));
    }

    private static void promises8To12() {
        range("8: host", 0, 1, n -> {
            WhoIsThere x = two();
            return x.sleep(n, x.host(0, 1, 9, 5));
        });
        range("8: proxy", 1, 2, n -> {
            WhoIsThere x = two();
            x.host(0, 1, 9, 5);
            return x.sleep(0, n);
        });
        refused("8: none there", n -> new WhoIsThere().sleep(n, 0) || new WhoIsThere().sleep(0, n));
        range("9: host", 0, 0, n -> oneAsleep().wake(n));
        refused("9: none there", n -> new WhoIsThere().wake(n));
        range("10: host", 0, 1, n -> two().fall(n));
        refused("10: none there", n -> new WhoIsThere().fall(n));
        range("11: host", 0, 1, n -> two().leave(n));
        refused("11: none there", n -> new WhoIsThere().leave(n));
        range("12: host", 0, 1, n -> two().keeper(n, true));
        refused("12: none there", n -> new WhoIsThere().keeper(n, true) || new WhoIsThere().keeper(n, false));
    }

    private static void promise13Bridge() {
        range("13: host", 0, 1, n -> Houses.ofRanks(5, 5).bridge(n, 1, 0));
        refused("13: none there", n -> new WhoIsThere().bridge(n, 1, 0));
        range("13: net, home 0", 1, 3, n -> Houses.ofNets(0).bridge(0, n, 0));
        range("13: net, home 3", 0, 2, n -> Houses.ofNets(3).bridge(0, n, 0));
        range("13: kinds", 0, 65535, n -> Houses.ofNets(0).bridge(0, 1, n));
    }

    private static void promises14And15() {
        range("14: host", 0, 1, n -> two().lose(n, 1));
        refused("14: none there", n -> new WhoIsThere().lose(n, 1));
        range("14: n", 0, 100, n -> two().lose(0, n));
        range("15: host", 0, 1, n -> two().deaf(n, 1));
        refused("15: none there", n -> new WhoIsThere().deaf(n, 1));
        range("15: n", 0, 100, n -> two().deaf(0, n));
    }

    private static void promises16And17() {
        range("16: a", 0, 2, n -> two().join(n, 3));
        range("16: b", 1, 3, n -> two().join(0, n));
        range("16: a, in an empty house", 1, 3, n -> new WhoIsThere().join(n, 0));
        range("17: n", 1, 50, n -> two().tick(n) != NONE);
        range("17: n, in an empty house", 1, 50, n -> new WhoIsThere().tick(n) != NONE);
        range("17: the tick that it answers", 1, 50, n -> n >= 1 && two().tick(n) == 1 + n);
    }

    private static void promise18Find() {
        range("18: host", 0, 1, n -> two().find(n, 3, 0, 0) != NONE);
        refused("18: none there", n -> new WhoIsThere().find(n, 3, 0, 0) != NONE);
        range("18: kind", 3, 3, n -> two().find(0, n, 0, 0) != NONE);
        range("18: marks", 0, 255, n -> two().find(0, 3, n, 0) == 1);
        range("18: k", 0, 0, n -> two().find(0, 3, 0, n) == 1);
    }

    private static void promises19And20() {
        range("19: host", 0, 0, n -> two().record(n, 1, 0) != NONE);
        range("19: service", 1, 1, n -> two().record(0, n, 0) != NONE);
        range("19: what", 0, 3, n -> two().record(0, 1, n) != NONE);
        refused("19: none there", n -> new WhoIsThere().record(n, n, 0) != NONE);
        range("20: service", 0, 1, n -> two().service(n, 0) == 2);
        range("20: what", 0, 7, n -> two().service(0, n) != NONE);
        refused("20: none there", n -> new WhoIsThere().service(n, 0) != NONE);
    }

    private static void promises21And22() {
        range("21: host", 0, 1, n -> two().look(n, 0) == 2);
        range("21: what", 0, 8, n -> n == 2 || n == 3 || two().look(0, n) != NONE);
        refused("21: none there", n -> new WhoIsThere().look(n, 0) != NONE);
        range("22: host", 0, 0, n -> two().reach(n, 1) == 1);
        range("22: service", 1, 1, n -> two().reach(0, n) == 1);
        refused("22: none there", n -> new WhoIsThere().reach(n, n) != NONE);
    }

    private static void promises23And24() {
        range("23: net", 0, 3, n -> two().twice(n) == 0);
        range("23: net, in an empty house", 0, 3, n -> new WhoIsThere().twice(n) == 0);
        range("24: what", 0, 10, n -> two().count(n) != NONE);
        range("24: what, in an empty house", 0, 10, n -> new WhoIsThere().count(n) == 0);
    }
}
