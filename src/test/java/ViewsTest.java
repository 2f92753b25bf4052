/** Promises 17 to 24: what the calls that look on answer, their edges, and wrong inputs. */
final class ViewsTest {
    private static final Check CHECK = new Check();
    private static final int[] OUT = {Integer.MIN_VALUE, -1, Integer.MAX_VALUE};

    public static void main(String[] args) {
        promise17Tick();
        promise18Find();
        promise19Record();
        promise20Service();
        promise21Look();
        promise22Reach();
        promise22Sleepers();
        promise23Twice();
        promise23SpokenFor();
        promise24Count();
        CHECK.end("ViewsTest");
    }

    private static void promise17Tick() {
        WhoIsThere x = new WhoIsThere();
        CHECK.due("17: 0", x.tick(0), -1);
        CHECK.due("17: 51", x.tick(51), -1);
        for (int out : OUT) {
            CHECK.due("17: out", x.tick(out), -1);
        }
        CHECK.due("17: none went by", x.count(0), 0);
        for (int i = 1; i < 600; i++) {
            CHECK.due("17: 50", x.tick(50), 50 * i);
        }
        CHECK.due("17: 49", x.tick(49), 29999);
        CHECK.due("17: above 30000", x.tick(2), -1);
        CHECK.due("17: to 30000", x.tick(1), 30000);
        CHECK.due("17: beyond", x.tick(1), -1);
        CHECK.due("17: stays", x.count(0), 30000);
    }

    private static WhoIsThere threeTold() {
        WhoIsThere x = new WhoIsThere();
        x.host(0, 1, 9, 5);
        x.host(0, 10, 19, 5);
        x.lie(0, 3, 9, 1, 20);
        x.lie(0, 3, 2, 3, 30);
        x.lie(0, 3, 5, 2, 40);
        x.lie(0, 4, 1, 255, 50);
        x.tick(1);
        return x;
    }

    private static void promise18Find() {
        WhoIsThere x = threeTold();
        CHECK.due("18: first by name", x.find(1, 3, 0, 0), 1);
        CHECK.due("18: second", x.find(1, 3, 0, 1), 2);
        CHECK.due("18: third", x.find(1, 3, 0, 2), 0);
        CHECK.due("18: no fourth", x.find(1, 3, 0, 3), -1);
        CHECK.due("18: marks 1", x.find(1, 3, 1, 0), 1);
        CHECK.due("18: marks 1, second", x.find(1, 3, 1, 1), 0);
        CHECK.due("18: marks 3", x.find(1, 3, 3, 0), 1);
        CHECK.due("18: marks 3, second", x.find(1, 3, 3, 1), -1);
        CHECK.due("18: marks 4", x.find(1, 3, 4, 0), -1);
        CHECK.due("18: all marks", x.find(1, 4, 255, 0), 3);
        CHECK.due("18: marks 256", x.find(1, 4, 256, 0), -1);
        CHECK.due("18: other kind", x.find(1, 5, 0, 0), -1);
        CHECK.due("18: its own are no records", x.find(0, 3, 0, 0), -1);
        for (int out : OUT) {
            CHECK.due("18: host out", x.find(out, 3, 0, 0), -1);
            CHECK.due("18: kind out", x.find(1, out, 0, 0), -1);
            CHECK.due("18: marks out", x.find(1, 3, out, 0), -1);
            CHECK.due("18: k out", x.find(1, 3, 0, out), -1);
        }
        x.sleep(1, 0);
        CHECK.due("18: asleep", x.find(1, 3, 0, 0), 1);
        x.fall(1);
        CHECK.due("18: gone", x.find(1, 3, 0, 0), -1);
    }

    private static void promise19Record() {
        WhoIsThere x = threeTold();
        x.change(1, 7);
        CHECK.due("19: name", x.record(1, 1, 0), 2);
        CHECK.due("19: marks as told", x.record(1, 1, 1), 3);
        CHECK.due("19: left", x.record(1, 1, 2), 30);
        CHECK.due("19: life told", x.record(1, 1, 3), 30);
        CHECK.due("19: what 4", x.record(1, 1, 4), -1);
        CHECK.due("19: none of its own", x.record(0, 1, 0), -1);
        CHECK.due("19: no such service", x.record(1, 4, 0), -1);
        CHECK.due("19: far service", x.record(1, 33, 0), -1);
        for (int out : OUT) {
            CHECK.due("19: host out", x.record(out, 1, 0), -1);
            CHECK.due("19: service out", x.record(1, out, 0), -1);
            CHECK.due("19: what out", x.record(1, 1, out), -1);
        }
        x.tick(1);
        CHECK.due("19: told anew", x.record(1, 1, 1), 7);
        CHECK.due("19: left less a tick", x.record(1, 2, 2), 39);
        CHECK.due("19: life told stays", x.record(1, 2, 3), 40);
    }

    private static void promise20Service() {
        WhoIsThere x = new WhoIsThere();
        x.host(0, 1, 9, 5);
        x.host(0, 1, 9, 6);
        x.offer(1, 3, 4, 9, 20);
        int[] claiming = {1, 4, 3, 9, 1, -1, 0, 0};
        seen("20: claiming", x, claiming);
        x.tick(1);
        int[] claimed = {1, 4, 2, 9, 1, -1, 0, 0};
        seen("20: claimed once", x, claimed);
        x.tick(3);
        int[] held = {2, 4, 0, 9, 1, 13, 0, 0};
        seen("20: held", x, held);
        x.drop(0);
        int[] dropped = {0, 4, 0, 9, 1, -1, 1, 0};
        seen("20: dropped", x, dropped);
        x.tick(1);
        int[] gone = {0, 4, 0, 9, 1, -1, 0, 0};
        seen("20: gone", x, gone);
        CHECK.due("20: what 8", x.service(0, 8), -1);
        CHECK.due("20: none such", x.service(1, 0), -1);
        for (int out : OUT) {
            CHECK.due("20: service out", x.service(out, 0), -1);
            CHECK.due("20: what out", x.service(0, out), -1);
        }
    }

    private static void seen(String when, WhoIsThere x, int[] due) {
        for (int what = 0; what < due.length; what++) {
            CHECK.due(when + ", what " + what, x.service(0, what), due[what]);
        }
    }

    private static void promise21Look() {
        WhoIsThere x = new WhoIsThere();
        x.host(2, 1, 9, 5);
        x.host(2, 10, 19, 5);
        x.host(2, 20, 29, 5);
        x.host(3, 30, 39, 5);
        x.bridge(3, 1, 1);
        x.lie(0, 3, 1, 0, 20);
        x.lie(0, 3, 2, 0, 20);
        x.tick(1);
        x.keeper(1, true);
        x.ask(2, 5, 0);
        x.sleep(2, 1);
        int[] plain = {2, 2, -1, -1, 1, 0, 0, 0, 0};
        looked("21: plain", x, 0, plain);
        int[] keeper = {2, 2, -1, -1, 0, 2, 1, 0, 0};
        looked("21: keeper", x, 1, keeper);
        int[] asleep = {1, 2, -1, 1, 0, 2, 0, 1, 0};
        looked("21: asleep", x, 2, asleep);
        int[] bridge = {2, 3, 1, -1, 0, 0, 0, 0, 0};
        looked("21: bridge", x, 3, bridge);
        x.fall(1);
        CHECK.due("21: proxy gone", x.look(2, 3), -1);
        x.leave(0);
        CHECK.due("21: leaving", x.look(0, 0), 3);
        CHECK.due("21: what 9", x.look(0, 9), -1);
        CHECK.due("21: none such", x.look(4, 0), -1);
        for (int out : OUT) {
            CHECK.due("21: host out", x.look(out, 0), -1);
            CHECK.due("21: what out", x.look(0, out), -1);
        }
        proxyAsleep();
        answersAreSeen();
    }

    private static void looked(String when, WhoIsThere x, int host, int[] due) {
        for (int what = 0; what < due.length; what++) {
            CHECK.due(when + ", what " + what, x.look(host, what), due[what]);
        }
    }

    private static void proxyAsleep() {
        WhoIsThere x = new WhoIsThere();
        x.host(0, 1, 9, 5);
        x.host(0, 10, 19, 5);
        x.host(0, 20, 29, 5);
        x.sleep(0, 1);
        CHECK.due("21: proxy", x.look(0, 3), 1);
        CHECK.due("8: a proxy may sleep", x.sleep(1, 2), true);
        CHECK.due("21: proxy asleep", x.look(0, 3), -1);
        x.wake(1);
        CHECK.due("21: proxy awake again", x.look(0, 3), 1);
    }

    private static void answersAreSeen() {
        WhoIsThere x = new WhoIsThere();
        x.host(0, 1, 9, 5);
        x.deaf(x.host(0, 10, 19, 5), 1);
        x.lie(0, 3, 1, 0, 40);
        x.lie(0, 3, 2, 0, 40);
        x.ask(1, 3, 0);
        x.tick(2);
        // heard at tick 1, lot of host 0 then is 3: due at 5
        CHECK.due("21: two answers wait", x.look(0, 8), 2);
        x.tick(3);
        CHECK.due("21: not yet", x.look(0, 8), 2);
        x.tick(1);
        CHECK.due("21: told", x.look(0, 8), 0);
        CHECK.due("21: heard", x.look(1, 5), 2);
    }

    private static void promise22Reach() {
        WhoIsThere x = new WhoIsThere();
        x.host(0, 1, 9, 5);
        x.host(0, 10, 19, 5);
        x.lie(0, 3, 1, 0, 40);
        CHECK.due("22: no record", x.reach(1, 0), -1);
        x.tick(1);
        CHECK.due("22: there", x.reach(1, 0), 1);
        CHECK.due("22: its own", x.reach(0, 0), -1);
        CHECK.due("22: no such service", x.reach(1, 1), -1);
        CHECK.due("22: no such host", x.reach(2, 0), -1);
        for (int out : OUT) {
            CHECK.due("22: host out", x.reach(out, 0), -1);
            CHECK.due("22: service out", x.reach(1, out), -1);
        }
        x.sleep(1, 0);
        CHECK.due("22: asleep itself", x.reach(1, 0), -1);
        x.wake(1);
        x.leave(1);
        CHECK.due("22: leaving itself", x.reach(1, 0), 1);
        x.drop(0);
        CHECK.due("22: dropped", x.reach(1, 0), 0);
        x.fall(1);
        CHECK.due("22: gone itself", x.reach(1, 0), -1);
        otherName();
    }

    private static void otherName() {
        WhoIsThere x = new WhoIsThere();
        x.host(0, 1, 2, 5);
        x.host(0, 1, 2, 9);
        x.host(0, 1, 2, 9);
        x.deaf(0, 100);
        x.deaf(1, 100);
        x.offer(0, 3, 1, 0, 40);
        x.tick(4);
        CHECK.due("22: by name 1", x.reach(2, 0), 1);
        x.deaf(0, 0);
        x.deaf(2, 100);
        x.lie(1, 3, 1, 0, 40);
        x.tick(1);
        CHECK.due("22: it yielded", x.service(0, 1), 2);
        CHECK.due("22: claiming", x.reach(2, 0), 0);
        x.tick(4);
        CHECK.due("22: held anew", x.service(0, 0), 2);
        CHECK.due("22: known by the old name", x.record(2, 0, 0), 1);
        CHECK.due("22: held by another name", x.reach(2, 0), 0);
    }

    private static void promise22Sleepers() {
        WhoIsThere x = new WhoIsThere();
        x.host(0, 1, 9, 5);
        x.host(0, 10, 19, 5);
        x.host(0, 20, 29, 5);
        x.lie(0, 3, 1, 0, 40);
        x.tick(1);
        x.sleep(0, 1);
        CHECK.due("22: wakes it", x.reach(2, 0), 2);
        CHECK.due("22: awake", x.look(0, 0), 2);
        CHECK.due("22: woken", x.count(8), 1);
        CHECK.due("22: there now", x.reach(2, 0), 1);
        x.sleep(0, 1);
        x.sleep(1, 2);
        CHECK.due("22: proxy asleep", x.reach(2, 0), 0);
        x.wake(1);
        x.fall(1);
        CHECK.due("22: proxy gone", x.reach(2, 0), 0);
        CHECK.due("22: still asleep", x.look(0, 0), 1);
        CHECK.due("22: not woken", x.count(8), 1);
    }

    private static void promise23Twice() {
        WhoIsThere x = new WhoIsThere();
        for (int h = 0; h < 4; h++) {
            x.host(0, 1, 9, 5);
            x.deaf(h, 100);
        }
        x.host(1, 1, 9, 5);
        x.offer(0, 3, 1, 0, 40);
        x.offer(1, 4, 1, 0, 40);
        x.offer(2, 5, 1, 0, 40);
        x.offer(3, 6, 2, 0, 40);
        x.offer(4, 6, 1, 0, 40);
        x.lie(3, 6, 1, 0, 40);
        CHECK.due("23: claiming", x.twice(0), 0);
        x.tick(4);
        CHECK.due("23: three of one name", x.twice(0), 3);
        CHECK.due("23: another net", x.twice(1), 0);
        CHECK.due("23: an empty net", x.twice(3), 0);
        CHECK.due("23: net 4", x.twice(4), -1);
        for (int out : OUT) {
            CHECK.due("23: out", x.twice(out), -1);
        }
        x.join(0, 1);
        CHECK.due("23: four of one name", x.twice(0), 6);
        x.drop(0);
        CHECK.due("23: one gone", x.twice(0), 3);
    }

    private static void promise23SpokenFor() {
        WhoIsThere x = new WhoIsThere();
        for (int h = 0; h < 3; h++) {
            x.host(0, 1, 9, 5);
            x.deaf(h, 100);
        }
        x.offer(0, 3, 1, 0, 40);
        x.offer(1, 4, 1, 0, 40);
        x.tick(4);
        x.sleep(0, 1);
        CHECK.due("23: spoken for by its rival", x.twice(0), 1);
        x.wake(0);
        x.sleep(0, 2);
        CHECK.due("23: spoken for", x.twice(0), 1);
        x.fall(2);
        CHECK.due("23: not spoken for", x.twice(0), 0);
        x.wake(0);
        CHECK.due("23: awake", x.twice(0), 1);
    }

    private static void promise24Count() {
        WhoIsThere x = new WhoIsThere();
        x.host(0, 1, 3, 5);
        x.host(0, 1, 3, 9);
        x.host(0, 1, 3, 2);
        x.bridge(2, 1, 65535);
        x.offer(0, 3, 1, 0, 40);
        x.offer(1, 3, 1, 0, 40);
        x.lie(1, 3, 7, 0, 40);
        x.lose(0, 1);
        x.tick(1);
        // host 0's claim is lost; host 1's claim and lie are heard by host 0 and the bridge
        int[] due = {1, 3, 3, 2, 1, 1, 1, 0, 0, 2, 2};
        for (int what = 0; what < due.length; what++) {
            CHECK.due("24: count(" + what + ")", x.count(what), due[what]);
        }
        x.tick(1);
        CHECK.due("24: letters", x.count(3), 5);
        CHECK.due("24: letters lately", x.count(9), 3);
        CHECK.due("24: what 11", x.count(11), -1);
        for (int out : OUT) {
            CHECK.due("24: out", x.count(out), -1);
        }
    }
}
