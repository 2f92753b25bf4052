import java.util.function.Function;
import java.util.function.Supplier;
import java.util.function.ToIntFunction;

/**
 * Every reason that the document gives for refusing a call: the answer, and that the call leaves all else
 * as it was. The house that was refused something and its twin that was not are looked at at once and after
 * some ticks, so that what waits unseen must be the same as well.
 */
final class RefusedTest {
    private static final Check CHECK = new Check();
    private static final int[] TICKS_LATER = {0, 1, 2, 3, 4, 9};

    private static final int OWNER = 0;
    private static final int SLEEPER = 1;
    private static final int PROXY = 2;
    private static final int KEEPER = 3;
    private static final int BRIDGE = 4;
    private static final int LEAVER = 5;
    private static final int GONE = 6;
    private static final int ASKER = 7;
    private static final int DROPPER = 8;
    private static final int CLAIMER = 9;
    private static final int PLAIN = 10;
    private static final int BEYOND = 11;

    private static final int HELD_SERVICE = 0;
    private static final int SERVICE_OF_SLEEPER = 4;
    private static final int SERVICE_OF_LEAVER = 5;
    private static final int SERVICE_OF_GONE = 6;
    private static final int DROPPED_SERVICE = 7;
    private static final int SERVICE_BEYOND = 9;

    public static void main(String[] args) {
        theHouseIsBusy();
        promise2Host();
        promise2And3Full();
        promise3And4Hosts();
        promise3Offer();
        promise4Lie();
        promise5Drop();
        promise6Change();
        promise7Ask();
        promise8Sleep();
        promise9Wake();
        promise10Fall();
        promise11Leave();
        promise12Keeper();
        promise13Bridge();
        promises14And15();
        promise16Join();
        promise17Tick();
        promises18To24LookOn();
        CHECK.end("RefusedTest");
    }

    /** Eleven hosts in every state, with something of each kind that waits. */
    private static WhoIsThere busy() {
        WhoIsThere x = Houses.ofNets(0, 0, 0, 0, 0, 0, 0, 1, 0, 0, 0);
        x.offer(OWNER, 3, 1, 5, 20);
        x.lie(OWNER, 3, 2, 5, 30);
        x.offer(OWNER, 4, 3, 5, 40);
        x.lie(OWNER, 4, 99, 5, 50);
        x.offer(SLEEPER, 3, 11, 5, 9);
        x.lie(LEAVER, 3, 51, 5, 60);
        x.lie(GONE, 3, 61, 5, 60);
        x.lie(DROPPER, 3, 81, 5, 60);
        x.bridge(BRIDGE, 1, Houses.ALL_KINDS);
        x.deaf(CLAIMER, 100);
        x.tick(4);
        x.deaf(CLAIMER, 0);
        x.offer(CLAIMER, 3, 91, 5, 60);
        x.deaf(ASKER, 1);
        x.ask(ASKER, 3, 4);
        x.keeper(KEEPER, true);
        x.change(HELD_SERVICE, 7);
        x.tick(1);
        x.ask(CLAIMER, 4, 0);
        x.tick(1);
        x.ask(ASKER, 5, 0);
        x.ask(DROPPER, 3, 4);
        x.sleep(SLEEPER, PROXY);
        x.fall(GONE);
        x.leave(LEAVER);
        x.drop(DROPPED_SERVICE);
        x.lose(CLAIMER, 1);
        return x;
    }

    private static void theHouseIsBusy() {
        int[] states = {2, 1, 2, 2, 2, 3, 0, 2, 2, 2, 2};
        for (int h = 0; h < states.length; h++) {
            CHECK.due("the busy house, host " + h, busy().look(h, 0), states[h]);
        }
        CHECK.due("an answer waits", busy().look(KEEPER, 8), 1);
        CHECK.due("asks wait", busy().look(ASKER, 7), 2);
        CHECK.due("a bye waits", busy().service(DROPPED_SERVICE, 6), 1);
        CHECK.due("a claim waits", busy().service(8, 2), 1);
        CHECK.due("none but these", busy().count(1), BEYOND);
        CHECK.due("no services but these", busy().count(2), SERVICE_BEYOND);
    }

    private static WhoIsThere later(WhoIsThere x, int ticks) {
        for (int i = 0; i < ticks; i++) {
            x.tick(1);
        }
        return x;
    }

    private static WhoIsThere after(WhoIsThere x, ToIntFunction<WhoIsThere> call) {
        call.applyAsInt(x);
        return x;
    }

    private static void leaves(String what, Supplier<WhoIsThere> house, ToIntFunction<WhoIsThere> call, int due) {
        CHECK.due(what, call.applyAsInt(house.get()), due);
        for (int ticks : TICKS_LATER) {
            Photo.same(CHECK, what + ", " + ticks + " ticks later",
                    () -> later(after(house.get(), call), ticks),
                    () -> later(house.get(), ticks));
        }
    }

    private static void none(String what, ToIntFunction<WhoIsThere> call) {
        leaves(what, RefusedTest::busy, call, WhoIsThere.NONE);
    }

    private static void no(String what, Function<WhoIsThere, Boolean> call) {
        leaves(what, RefusedTest::busy, x -> call.apply(x) ? 1 : 0, 0);
    }

    private static void promise2Host() {
        none("2: no such net", x -> x.host(-1, 1, 2, 0));
        none("2: no such net", x -> x.host(4, 1, 2, 0));
        none("2: no such names", x -> x.host(0, 0, 2, 0));
        none("2: no such names", x -> x.host(0, 1, 251, 0));
        none("2: no such names", x -> x.host(0, 3, 2, 0));
        none("2: no such rank", x -> x.host(0, 1, 2, -1));
        none("2: no such rank", x -> x.host(0, 1, 2, 1001));
    }

    private static WhoIsThere fullWithOneGone() {
        WhoIsThere x = Houses.full();
        x.drop(0);
        x.fall(11);
        return x;
    }

    private static void promise2And3Full() {
        Supplier<WhoIsThere> full = RefusedTest::fullWithOneGone;
        leaves("2: 12 are there, one of them gone", full, x -> x.host(0, 1, 2, 0), -1);
        leaves("3: 32 are there, one of them gone", full, x -> x.offer(0, 3, 5, 0, 4), -1);
        leaves("3: 32 are there, none of that host", full, x -> x.offer(10, 3, 105, 0, 4), -1);
        leaves("4: 32 are there, one of them gone", full, x -> x.lie(0, 3, 5, 0, 4), -1);
        leaves("4: 32 are there, none of that host", full, x -> x.lie(10, 3, 105, 0, 4), -1);
    }

    private static void promise3And4Hosts() {
        int[] hosts = {-1, BEYOND, SLEEPER, GONE, LEAVER, BRIDGE};
        for (int host : hosts) {
            int name = Math.max(1, 10 * host + 5);
            none("3: no such host awake, or leaving, or a bridge: " + host, x -> x.offer(host, 3, name, 0, 4));
            none("4: no such host awake, or leaving, or a bridge: " + host, x -> x.lie(host, 3, name, 0, 4));
        }
        none("3: it has 4", x -> x.offer(OWNER, 3, 5, 0, 4));
        none("4: it has 4", x -> x.lie(OWNER, 3, 5, 0, 4));
    }

    private static void promise3Offer() {
        none("3: no such kind", x -> x.offer(PLAIN, -1, 101, 0, 4));
        none("3: no such kind", x -> x.offer(PLAIN, 16, 101, 0, 4));
        none("3: no such marks", x -> x.offer(PLAIN, 3, 101, -1, 4));
        none("3: no such marks", x -> x.offer(PLAIN, 3, 101, 256, 4));
        none("3: no such life", x -> x.offer(PLAIN, 3, 101, 0, 3));
        none("3: no such life", x -> x.offer(PLAIN, 3, 101, 0, 201));
        none("3: a name below its own", x -> x.offer(PLAIN, 3, 100, 0, 4));
        none("3: a name above its own", x -> x.offer(PLAIN, 3, 111, 0, 4));
        none("3: a name that another service of it has", x -> x.offer(CLAIMER, 3, 91, 0, 4));
    }

    private static void promise4Lie() {
        none("4: no such kind", x -> x.lie(PLAIN, -1, 101, 0, 4));
        none("4: no such kind", x -> x.lie(PLAIN, 16, 101, 0, 4));
        none("4: no such marks", x -> x.lie(PLAIN, 3, 101, -1, 4));
        none("4: no such marks", x -> x.lie(PLAIN, 3, 101, 256, 4));
        none("4: no such life", x -> x.lie(PLAIN, 3, 101, 0, 3));
        none("4: no such life", x -> x.lie(PLAIN, 3, 101, 0, 201));
        none("4: no such name", x -> x.lie(PLAIN, 3, 0, 0, 4));
        none("4: no such name", x -> x.lie(PLAIN, 3, 251, 0, 4));
        none("4: a name that another service of it has", x -> x.lie(CLAIMER, 3, 91, 0, 4));
    }

    private static void promise5Drop() {
        no("5: none such", x -> x.drop(-1));
        no("5: none such", x -> x.drop(SERVICE_BEYOND));
        no("5: gone, its bye waits", x -> x.drop(DROPPED_SERVICE));
        no("5: gone with its host", x -> x.drop(SERVICE_OF_GONE));
        no("5: its host is asleep", x -> x.drop(SERVICE_OF_SLEEPER));
        no("5: its host leaves", x -> x.drop(SERVICE_OF_LEAVER));
    }

    private static void promise6Change() {
        no("6: none such", x -> x.change(-1, 1));
        no("6: none such", x -> x.change(SERVICE_BEYOND, 1));
        no("6: gone, its bye waits", x -> x.change(DROPPED_SERVICE, 1));
        no("6: gone with its host", x -> x.change(SERVICE_OF_GONE, 1));
        no("6: its host is asleep", x -> x.change(SERVICE_OF_SLEEPER, 1));
        no("6: its host leaves", x -> x.change(SERVICE_OF_LEAVER, 1));
        no("6: other marks", x -> x.change(HELD_SERVICE, -1));
        no("6: other marks", x -> x.change(HELD_SERVICE, 256));
    }

    private static void promise7Ask() {
        int[] hosts = {-1, BEYOND, SLEEPER, GONE, LEAVER, BRIDGE};
        for (int host : hosts) {
            no("7: no such host awake, or leaving, or a bridge: " + host, x -> x.ask(host, 3, 0));
        }
        no("7: no such kind", x -> x.ask(PLAIN, -1, 0));
        no("7: no such kind", x -> x.ask(PLAIN, 16, 0));
        no("7: no such marks", x -> x.ask(PLAIN, 3, -1));
        no("7: no such marks", x -> x.ask(PLAIN, 3, 256));
        no("7: one of that kind waits", x -> x.ask(ASKER, 5, 0));
        no("7: one of that kind waits, with other marks", x -> x.ask(ASKER, 5, 1));
    }

    private static void promise8Sleep() {
        int[] hosts = {-1, BEYOND, SLEEPER, GONE, LEAVER, BRIDGE, ASKER};
        for (int host : hosts) {
            no("8: not awake, on another net, leaving, or a bridge: " + host, x -> x.sleep(host, OWNER));
            no("8: such a proxy: " + host, x -> x.sleep(OWNER, host));
        }
        no("8: the same", x -> x.sleep(OWNER, OWNER));
        no("8: a keeper", x -> x.sleep(KEEPER, OWNER));
    }

    private static void promise9Wake() {
        for (int host : new int[] {-1, BEYOND, OWNER, PROXY, KEEPER, BRIDGE, LEAVER, GONE}) {
            no("9: none such that sleeps: " + host, x -> x.wake(host));
        }
    }

    private static void promise10Fall() {
        no("10: none such", x -> x.fall(-1));
        no("10: none such", x -> x.fall(BEYOND));
        no("10: it is gone", x -> x.fall(GONE));
    }

    private static void promise11Leave() {
        for (int host : new int[] {-1, BEYOND, SLEEPER, GONE}) {
            no("11: no such host awake: " + host, x -> x.leave(host));
        }
        no("11: it leaves", x -> x.leave(LEAVER));
    }

    private static void promise12Keeper() {
        for (int host : new int[] {-1, BEYOND, SLEEPER, GONE, LEAVER, BRIDGE}) {
            no("12: no such host awake, or leaving, or a bridge: " + host, x -> x.keeper(host, true));
            no("12: nor no more: " + host, x -> x.keeper(host, false));
        }
        no("12: it is one", x -> x.keeper(KEEPER, true));
        no("12: it is none", x -> x.keeper(OWNER, false));
    }

    private static void promise13Bridge() {
        for (int host : new int[] {-1, BEYOND, SLEEPER, GONE}) {
            no("13: no such host awake: " + host, x -> x.bridge(host, 2, 1));
        }
        no("13: no such net", x -> x.bridge(PLAIN, -1, 1));
        no("13: no such net", x -> x.bridge(PLAIN, 4, 1));
        no("13: its home", x -> x.bridge(PLAIN, 0, 1));
        no("13: its home, another one", x -> x.bridge(ASKER, 1, 1));
        no("13: no such kinds", x -> x.bridge(PLAIN, 2, -1));
        no("13: no such kinds", x -> x.bridge(PLAIN, 2, 65536));
        no("13: it leaves", x -> x.bridge(LEAVER, 2, 1));
        no("13: it is a bridge", x -> x.bridge(BRIDGE, 2, 1));
        no("13: a keeper", x -> x.bridge(KEEPER, 2, 1));
        no("13: it has services", x -> x.bridge(OWNER, 2, 1));
        no("13: it has had services", x -> x.bridge(DROPPER, 2, 1));
        no("13: it has an ask", x -> x.bridge(ASKER, 2, 1));
        no("13: a proxy of one asleep", x -> x.bridge(PROXY, 2, 1));
    }

    private static void promises14And15() {
        for (int host : new int[] {-1, BEYOND}) {
            no("14: none such: " + host, x -> x.lose(host, 1));
            no("15: none such: " + host, x -> x.deaf(host, 1));
        }
        for (int n : new int[] {-1, 101}) {
            no("14: another n: " + n, x -> x.lose(CLAIMER, n));
            no("14: another n, of a gone one: " + n, x -> x.lose(GONE, n));
            no("15: another n: " + n, x -> x.deaf(ASKER, n));
            no("15: another n, of a gone one: " + n, x -> x.deaf(GONE, n));
        }
    }

    private static void promise16Join() {
        for (int net = 0; net <= 3; net++) {
            int same = net;
            no("16: the same: " + net, x -> x.join(same, same));
            no("16: no such nets", x -> x.join(same, -1));
            no("16: no such nets", x -> x.join(-1, same));
            no("16: no such nets", x -> x.join(same, 4));
            no("16: no such nets", x -> x.join(4, same));
        }
        no("16: the same, and none such", x -> x.join(4, 4));
        no("16: the same, and none such", x -> x.join(-1, -1));
    }

    private static void promise17Tick() {
        for (int n : new int[] {Integer.MIN_VALUE, -1, 0, 51, Integer.MAX_VALUE}) {
            none("17: another n: " + n, x -> x.tick(n));
        }
    }

    private static void promises18To24LookOn() {
        leaves("18: found", RefusedTest::busy, x -> x.find(PROXY, 3, 7, 0), HELD_SERVICE);
        none("18: none such", x -> x.find(PROXY, 3, 7, 1));
        leaves("19: seen", RefusedTest::busy, x -> x.record(PROXY, HELD_SERVICE, 0), 1);
        none("19: none such", x -> x.record(OWNER, HELD_SERVICE, 0));
        none("20: none such", x -> x.service(HELD_SERVICE, 8));
        none("21: none such", x -> x.look(OWNER, 9));
        leaves("22: it is there", RefusedTest::busy, x -> x.reach(PROXY, HELD_SERVICE), 1);
        leaves("22: neither", RefusedTest::busy, x -> x.reach(PROXY, SERVICE_OF_GONE), 0);
        none("22: no such record", x -> x.reach(OWNER, HELD_SERVICE));
        none("22: asleep itself", x -> x.reach(SLEEPER, HELD_SERVICE));
        none("22: gone itself", x -> x.reach(GONE, HELD_SERVICE));
        leaves("23: seen", RefusedTest::busy, x -> x.twice(0), 0);
        none("23: no such net", x -> x.twice(4));
        none("24: none such", x -> x.count(11));
    }
}
