import java.util.ArrayList;
import java.util.HashSet;
import java.util.List;
import java.util.Map;
import java.util.Set;
import java.util.TreeMap;
import java.util.TreeSet;

/**
 * A second writing of the document, as near to its words as can be and careless of room and speed, for
 * ModelTest to compare with. It shares no code and no way of holding the state with the class.
 */
final class Model {
    enum Life { GONE, ASLEEP, AWAKE }

    enum Claim { GONE, CLAIMING, HELD }

    record Rec(int name, int marks, int life, int end) { }

    record Waiting(int marks, int due) { }

    record Ask(int kind, int marks, Set<Integer> known, Set<Integer> bears) { }

    record Called(int service, int name, Set<Integer> bears) { }

    record Bye(int service, Set<Integer> bears) { }

    record Telling(int service, int name, int marks, int life, Set<Integer> bears) { }

    static final class Letter {
        final int writer;
        final int net;
        final Map<Integer, Ask> asks = new TreeMap<>();
        final Map<Integer, Called> claims = new TreeMap<>();
        final Map<Integer, Bye> byes = new TreeMap<>();
        final Map<Integer, Telling> tellings = new TreeMap<>();

        Letter(int writer, int net) {
            this.writer = writer;
            this.net = net;
        }

        boolean hasAnything() {
            return asks.size() + claims.size() + byes.size() + tellings.size() > 0;
        }
    }

    static final class H {
        int home;
        int second = -1;
        int kinds;
        int from;
        int to;
        int rank;
        Life life = Life.AWAKE;
        boolean leaves;
        boolean keeper;
        int proxy = -1;
        int lose;
        int deaf;
        int wrote;
        Letter forHome = new Letter(-1, -1);
        Letter forSecond = new Letter(-1, -1);
        final Map<Integer, Rec> store = new TreeMap<>();
        final Map<Integer, Waiting> asks = new TreeMap<>();
        final Map<Integer, Integer> answers = new TreeMap<>();

        boolean isBridge() {
            return second >= 0;
        }

        boolean awake() {
            return life == Life.AWAKE;
        }
    }

    static final class S {
        int host;
        int kind;
        int name;
        int marks;
        int life;
        boolean isFalse;
        Claim state;
        int claims;
        int renewal;
        boolean bye;
        int yielded;
    }

    final List<H> hosts = new ArrayList<>();
    final List<S> services = new ArrayList<>();
    int tick;
    int letters;
    int lost;
    int yields;
    int lies;
    int leftOut;
    int woken;
    int lately;
    int carried;

    private static boolean in(int x, int least, int most) {
        return least <= x && x <= most;
    }

    private H host(int h) {
        return in(h, 0, hosts.size() - 1) ? hosts.get(h) : null;
    }

    private S service(int s) {
        return in(s, 0, services.size() - 1) ? services.get(s) : null;
    }

    int host(int net, int from, int to, int rank) {
        if (!in(net, 0, 3) || !in(from, 1, 250) || !in(to, from, 250) || !in(rank, 0, 1000)) {
            return -1;
        }
        if (hosts.size() == 12) {
            return -1;
        }
        H h = new H();
        h.home = net;
        h.from = from;
        h.to = to;
        h.rank = rank;
        hosts.add(h);
        return hosts.size() - 1;
    }

    private int make(int host, int kind, int name, int marks, int life, boolean isFalse) {
        H h = host(host);
        if (h == null || !h.awake() || h.leaves || h.isBridge()) {
            return -1;
        }
        int there = 0;
        for (S s : services) {
            if (s.host == host && s.state != Claim.GONE) {
                there++;
                if (s.name == name) {
                    return -1;
                }
            }
        }
        boolean ownName = in(name, h.from, h.to) || isFalse && in(name, 1, 250);
        if (there == 4 || !ownName || services.size() == 32) {
            return -1;
        }
        if (!in(kind, 0, 15) || !in(marks, 0, 255) || !in(life, 4, 200)) {
            return -1;
        }
        S s = new S();
        s.host = host;
        s.kind = kind;
        s.name = name;
        s.marks = marks;
        s.life = life;
        s.isFalse = isFalse;
        s.state = isFalse ? Claim.HELD : Claim.CLAIMING;
        s.claims = 3;
        s.renewal = tick;
        services.add(s);
        return services.size() - 1;
    }

    int offer(int host, int kind, int name, int marks, int life) {
        return make(host, kind, name, marks, life, false);
    }

    int lie(int host, int kind, int name, int marks, int life) {
        return make(host, kind, name, marks, life, true);
    }

    private boolean inHand(S s) {
        return s != null && s.state != Claim.GONE && hosts.get(s.host).awake() && !hosts.get(s.host).leaves;
    }

    boolean drop(int service) {
        S s = service(service);
        if (!inHand(s)) {
            return false;
        }
        s.bye |= s.state == Claim.HELD;
        s.state = Claim.GONE;
        return true;
    }

    boolean change(int service, int marks) {
        S s = service(service);
        if (!inHand(s) || !in(marks, 0, 255)) {
            return false;
        }
        s.marks = marks;
        if (s.state == Claim.HELD) {
            s.renewal = tick;
        }
        return true;
    }

    private int lot(int h, int t) {
        return (5 * h + 3 * t) % 4;
    }

    boolean ask(int host, int kind, int marks) {
        H h = host(host);
        if (h == null || !h.awake() || h.leaves || h.isBridge()) {
            return false;
        }
        if (!in(kind, 0, 15) || !in(marks, 0, 255) || h.asks.containsKey(kind)) {
            return false;
        }
        h.asks.put(kind, new Waiting(marks, tick + lot(host, tick)));
        return true;
    }

    boolean sleep(int host, int proxy) {
        H h = host(host);
        H p = host(proxy);
        if (h == null || p == null || !h.awake() || !p.awake() || host == proxy) {
            return false;
        }
        if (h.home != p.home || h.leaves || p.leaves || h.isBridge() || p.isBridge() || h.keeper) {
            return false;
        }
        h.life = Life.ASLEEP;
        h.proxy = proxy;
        return true;
    }

    boolean wake(int host) {
        H h = host(host);
        if (h == null || h.life != Life.ASLEEP) {
            return false;
        }
        h.life = Life.AWAKE;
        return true;
    }

    private void gone(H h) {
        h.life = Life.GONE;
        h.leaves = false;
        h.keeper = false;
        h.store.clear();
        h.asks.clear();
        h.answers.clear();
    }

    boolean fall(int host) {
        H h = host(host);
        if (h == null || h.life == Life.GONE) {
            return false;
        }
        for (S s : services) {
            if (s.host == host) {
                s.state = Claim.GONE;
                s.bye = false;
            }
        }
        gone(h);
        return true;
    }

    boolean leave(int host) {
        H h = host(host);
        if (h == null || !h.awake() || h.leaves) {
            return false;
        }
        h.leaves = true;
        for (S s : services) {
            if (s.host == host) {
                s.bye |= s.state == Claim.HELD;
                s.state = Claim.GONE;
            }
        }
        for (H other : hosts) {
            if (other.life == Life.ASLEEP && other.proxy == host) {
                other.life = Life.AWAKE;
                woken++;
            }
        }
        return true;
    }

    boolean keeper(int host, boolean is) {
        H h = host(host);
        if (h == null || !h.awake() || h.leaves || h.isBridge()) {
            return false;
        }
        boolean changed = h.keeper != is;
        h.keeper = is;
        return changed;
    }

    boolean bridge(int host, int net, int kinds) {
        H h = host(host);
        if (h == null || !h.awake() || !in(net, 0, 3) || net == h.home || !in(kinds, 0, 65535)) {
            return false;
        }
        if (h.leaves || h.isBridge() || h.keeper || !h.asks.isEmpty()) {
            return false;
        }
        for (S s : services) {
            if (s.host == host) {
                return false;
            }
        }
        for (H other : hosts) {
            if (other.life == Life.ASLEEP && other.proxy == host) {
                return false;
            }
        }
        h.second = net;
        h.kinds = kinds;
        h.store.clear();
        h.answers.clear();
        return true;
    }

    boolean lose(int host, int n) {
        H h = host(host);
        if (h == null || !in(n, 0, 100)) {
            return false;
        }
        h.lose = n;
        return true;
    }

    boolean deaf(int host, int n) {
        H h = host(host);
        if (h == null || !in(n, 0, 100)) {
            return false;
        }
        h.deaf = n;
        return true;
    }

    boolean join(int a, int b) {
        if (!in(a, 0, 3) || !in(b, 0, 3) || a == b) {
            return false;
        }
        for (H h : hosts) {
            h.home = h.home == b ? a : h.home;
            h.second = h.second == b ? a : h.second;
        }
        for (S s : services) {
            if (s.state == Claim.HELD && hosts.get(s.host).home == a) {
                s.renewal = tick;
            }
        }
        return true;
    }

    int tick(int n) {
        if (!in(n, 1, 50) || tick + n > 30000) {
            return -1;
        }
        for (int i = 0; i < n; i++) {
            oneTick(tick);
            tick++;
        }
        return tick;
    }

    private void oneTick(int t) {
        for (S s : services) {
            if (s.state == Claim.CLAIMING && s.claims == 0 && hosts.get(s.host).awake()) {
                s.state = Claim.HELD;
                s.renewal = t;
            }
        }
        List<Letter> written = new ArrayList<>();
        for (int h = 0; h < hosts.size(); h++) {
            if (hosts.get(h).awake()) {
                for (Letter letter : lettersOf(h, t)) {
                    if (letter.hasAnything()) {
                        written.add(letter);
                        hosts.get(h).wrote++;
                    }
                }
            }
        }
        letters += written.size();
        lately = written.size();
        for (Letter letter : written) {
            H writer = hosts.get(letter.writer);
            if (writer.lose > 0) {
                writer.lose--;
                lost++;
            } else {
                heard(letter, t);
            }
        }
        for (H h : hosts) {
            h.store.values().removeIf(r -> r.end == t + 1);
        }
    }

    private List<Letter> lettersOf(int host, int t) {
        H h = hosts.get(host);
        if (h.isBridge()) {
            List<Letter> both = new ArrayList<>();
            if (!h.leaves && h.home != h.second) {
                both.add(borne(h.forHome, host, h.home));
                both.add(borne(h.forSecond, host, h.second));
            }
            h.forHome = new Letter(-1, -1);
            h.forSecond = new Letter(-1, -1);
            if (h.leaves) {
                gone(h);
            }
            return both;
        }
        Letter letter = new Letter(host, h.home);
        Set<Integer> bears = Set.of(h.home);
        if (!h.leaves) {
            writeAsksAndClaims(letter, bears, t);
            writeTellings(letter, bears, t);
        }
        for (int s = 0; s < services.size(); s++) {
            if (services.get(s).host == host && services.get(s).bye) {
                letter.byes.put(s, new Bye(s, bears));
                services.get(s).bye = false;
            }
        }
        if (h.leaves) {
            gone(h);
        }
        return List.of(letter);
    }

    private static Set<Integer> and(Set<Integer> bears, int net) {
        Set<Integer> all = new HashSet<>(bears);
        all.add(net);
        return all;
    }

    private Letter borne(Letter waiting, int writer, int net) {
        Letter letter = new Letter(writer, net);
        waiting.asks.forEach((k, a) -> letter.asks.put(k, new Ask(k, a.marks, a.known, and(a.bears, net))));
        waiting.claims.forEach((s, c) -> letter.claims.put(s, new Called(s, c.name, and(c.bears, net))));
        waiting.byes.forEach((s, b) -> letter.byes.put(s, new Bye(s, and(b.bears, net))));
        waiting.tellings.forEach((s, d) ->
                letter.tellings.put(s, new Telling(s, d.name, d.marks, d.life, and(d.bears, net))));
        return letter;
    }

    private Set<Integer> known(H h, int kind, int t) {
        Set<Integer> known = new TreeSet<>();
        h.store.forEach((s, r) -> {
            if (services.get(s).kind == kind && 2 * (r.end - t) > r.life) {
                known.add(s);
            }
        });
        return known;
    }

    private void writeAsksAndClaims(Letter letter, Set<Integer> bears, int t) {
        H h = hosts.get(letter.writer);
        h.asks.forEach((kind, w) -> {
            if (w.due <= t) {
                letter.asks.put(kind, new Ask(kind, w.marks, known(h, kind, t), bears));
            }
        });
        h.asks.keySet().removeAll(letter.asks.keySet());
        for (int s = 0; s < services.size(); s++) {
            S own = services.get(s);
            if (own.host == letter.writer && own.state == Claim.CLAIMING && own.claims > 0) {
                own.claims--;
                letter.claims.put(s, new Called(s, own.name, bears));
            }
        }
    }

    private boolean speaks(int host, int service) {
        S s = services.get(service);
        H owner = hosts.get(s.host);
        if (s.host == host) {
            return owner.awake() && s.state != Claim.GONE;
        }
        return s.state == Claim.HELD && owner.life == Life.ASLEEP && owner.proxy == host;
    }

    private void writeTellings(Letter letter, Set<Integer> bears, int t) {
        H h = hosts.get(letter.writer);
        for (int n = 0; n < services.size(); n++) {
            S s = services.get(n);
            boolean answer = h.answers.containsKey(n) && h.answers.get(n) <= t;
            boolean speaks = speaks(letter.writer, n);
            if (speaks && s.state == Claim.HELD && (answer || s.renewal <= t)) {
                letter.tellings.put(n, new Telling(n, s.name, s.marks, s.life, bears));
                s.renewal = t + s.life / 2;
            }
            Rec r = h.store.get(n);
            if (!speaks && h.keeper && answer && r != null && r.end - t - 1 > 0) {
                letter.tellings.put(n, new Telling(n, r.name, r.marks, r.end - t - 1, bears));
            }
        }
        h.answers.values().removeIf(due -> due <= t);
    }

    private void heard(Letter letter, int t) {
        for (int n = 0; n < hosts.size(); n++) {
            H h = hosts.get(n);
            boolean there = h.home == letter.net || h.second == letter.net;
            if (n == letter.writer || !h.awake() || !there || h.isBridge() && h.home == h.second) {
                continue;
            }
            if (h.deaf > 0) {
                h.deaf--;
            } else if (h.isBridge()) {
                bridgeHears(h, letter);
            } else {
                letter.asks.values().forEach(a -> hearsAsk(h, a, letter, t));
                letter.claims.values().forEach(c -> hearsClaim(h, c, t));
                letter.byes.keySet().forEach(s -> h.store.remove(s));
                letter.tellings.values().forEach(d -> hearsTelling(h, d, t));
            }
        }
    }

    private boolean kindIsCarried(H h, int kind) {
        return (h.kinds & 1 << kind) != 0;
    }

    private void bridgeHears(H h, Letter letter) {
        int other = letter.net == h.home ? h.second : h.home;
        Letter way = letter.net == h.home ? h.forSecond : h.forHome;
        letter.asks.forEach((k, a) -> {
            if (kindIsCarried(h, k) && !a.bears.contains(other) && way.asks.putIfAbsent(k, a) == null) {
                carried++;
            }
        });
        letter.claims.forEach((s, c) -> {
            if (kindIsCarried(h, services.get(s).kind) && !c.bears.contains(other)) {
                carried += way.claims.put(s, c) == null ? 1 : 0;
            }
        });
        letter.byes.forEach((s, b) -> {
            if (kindIsCarried(h, services.get(s).kind) && !b.bears.contains(other)) {
                carried += way.byes.put(s, b) == null ? 1 : 0;
            }
        });
        letter.tellings.forEach((s, d) -> {
            if (kindIsCarried(h, services.get(s).kind) && !d.bears.contains(other) && d.life > 1) {
                Telling less = new Telling(s, d.name, d.marks, d.life - 1, d.bears);
                carried += way.tellings.put(s, less) == null ? 1 : 0;
            }
        });
    }

    private void comesDue(H h, int service, int due) {
        h.answers.merge(service, due, Math::min);
    }

    private void hearsAsk(H h, Ask ask, Letter letter, int t) {
        int me = hosts.indexOf(h);
        Waiting own = h.asks.get(ask.kind);
        if (own != null && own.marks == ask.marks && known(h, ask.kind, t).containsAll(ask.known)) {
            h.asks.remove(ask.kind);
        }
        int least = -1;
        for (int n = hosts.size() - 1; n >= 0; n--) {
            H k = hosts.get(n);
            if (k.keeper && n != letter.writer && k.awake() && k.home == letter.net) {
                least = n;
            }
        }
        if (least != -1 && least != me) {
            return;
        }
        for (int n = 0; n < services.size(); n++) {
            S s = services.get(n);
            if (s.kind != ask.kind || ask.known.contains(n)) {
                continue;
            }
            boolean answers;
            if (speaks(me, n)) {
                answers = s.state == Claim.HELD && (s.marks & ask.marks) == ask.marks;
            } else {
                Rec r = h.store.get(n);
                answers = least == me && r != null && (r.marks & ask.marks) == ask.marks;
            }
            if (answers) {
                comesDue(h, n, t + 1 + lot(me, t));
            }
        }
    }

    private boolean stronger(int a, int b) {
        int ha = services.get(a).host;
        int hb = services.get(b).host;
        int ra = hosts.get(ha).rank;
        int rb = hosts.get(hb).rank;
        return ra != rb ? ra > rb : ha != hb ? ha < hb : a < b;
    }

    private void yields(S s) {
        H owner = hosts.get(s.host);
        s.bye |= s.state == Claim.HELD;
        List<Integer> inOrder = new ArrayList<>();
        for (int name = s.name + 1; name <= owner.to; name++) {
            inOrder.add(name);
        }
        for (int name = owner.from; name <= s.name; name++) {
            inOrder.add(name);
        }
        for (S other : services) {
            if (other != s && other.host == s.host && other.state != Claim.GONE) {
                inOrder.remove((Integer) other.name);
            }
        }
        s.name = inOrder.get(0);
        s.state = Claim.CLAIMING;
        s.claims = 3;
        s.yielded++;
        yields++;
        if (owner.life == Life.ASLEEP) {
            owner.life = Life.AWAKE;
            woken++;
        }
    }

    private void hearsClaim(H h, Called claim, int t) {
        int me = hosts.indexOf(h);
        for (int n = 0; n < services.size(); n++) {
            S s = services.get(n);
            if (n == claim.service || s.isFalse || s.name != claim.name || !speaks(me, n)) {
                continue;
            }
            if (s.state == Claim.HELD) {
                comesDue(h, n, t + 1);
            } else if (stronger(claim.service, n)) {
                yields(s);
            }
        }
    }

    private void hearsTelling(H h, Telling told, int t) {
        int me = hosts.indexOf(h);
        S s = services.get(told.service);
        if (!in(told.name, hosts.get(s.host).from, hosts.get(s.host).to)) {
            lies++;
            return;
        }
        for (int n = 0; n < services.size(); n++) {
            S own = services.get(n);
            if (n == told.service || own.isFalse || own.name != told.name || !speaks(me, n)) {
                continue;
            }
            if (own.state == Claim.CLAIMING || stronger(told.service, n)) {
                yields(own);
            } else {
                comesDue(h, n, t + 1);
            }
        }
        if (2 * told.life >= s.life) {
            h.answers.remove(told.service);
        }
        if (s.host == me) {
            return;
        }
        for (int n : new ArrayList<>(h.store.keySet())) {
            if (n != told.service && h.store.get(n).name == told.name) {
                if (stronger(n, told.service)) {
                    leftOut++;
                    return;
                }
                h.store.remove(n);
            }
        }
        h.store.put(told.service, new Rec(told.name, told.marks, told.life, t + 1 + told.life));
    }

    int find(int host, int kind, int marks, int k) {
        H h = host(host);
        if (h == null) {
            return -1;
        }
        TreeMap<Integer, Integer> byName = new TreeMap<>();
        h.store.forEach((s, r) -> {
            if (services.get(s).kind == kind && (r.marks & marks) == marks) {
                byName.put(r.name, s);
            }
        });
        return in(k, 0, byName.size() - 1) ? new ArrayList<>(byName.values()).get(k) : -1;
    }

    int record(int host, int service, int what) {
        H h = host(host);
        Rec r = h == null ? null : h.store.get(service);
        if (r == null || !in(what, 0, 3)) {
            return -1;
        }
        return List.of(r.name, r.marks, r.end - tick, r.life).get(what);
    }

    int service(int service, int what) {
        S s = service(service);
        if (s == null || !in(what, 0, 7)) {
            return -1;
        }
        return List.of(s.state.ordinal(), s.name, s.state == Claim.CLAIMING ? s.claims : 0, s.marks, s.host,
                s.state == Claim.HELD ? s.renewal : -1, s.bye ? 1 : 0, s.yielded).get(what);
    }

    private boolean proxyAwake(H h) {
        return h.life == Life.ASLEEP && hosts.get(h.proxy).awake();
    }

    int look(int host, int what) {
        H h = host(host);
        if (h == null || !in(what, 0, 8)) {
            return -1;
        }
        return List.of(h.leaves ? 3 : h.life.ordinal(), h.home, h.second, proxyAwake(h) ? h.proxy : -1, h.wrote,
                h.store.size(), h.keeper ? 1 : 0, h.asks.size(), h.answers.size()).get(what);
    }

    int reach(int host, int service) {
        H h = host(host);
        if (h == null || !h.awake() || !h.store.containsKey(service)) {
            return -1;
        }
        S s = services.get(service);
        H owner = hosts.get(s.host);
        if (s.state != Claim.HELD || s.name != h.store.get(service).name) {
            return 0;
        }
        if (owner.awake()) {
            return 1;
        }
        if (!proxyAwake(owner)) {
            return 0;
        }
        owner.life = Life.AWAKE;
        woken++;
        return 2;
    }

    int twice(int net) {
        if (!in(net, 0, 3)) {
            return -1;
        }
        List<Integer> names = new ArrayList<>();
        for (int n = 0; n < services.size(); n++) {
            S s = services.get(n);
            for (int h = 0; h < hosts.size(); h++) {
                H speaker = hosts.get(h);
                if (s.state == Claim.HELD && !s.isFalse && speaker.awake() && speaker.home == net && speaks(h, n)) {
                    names.add(s.name);
                }
            }
        }
        int pairs = 0;
        for (int i = 0; i < names.size(); i++) {
            for (int j = 0; j < i; j++) {
                pairs += names.get(i).equals(names.get(j)) ? 1 : 0;
            }
        }
        return pairs;
    }

    int count(int what) {
        List<Integer> all = List.of(tick, hosts.size(), services.size(), letters, lost, yields, lies, leftOut,
                woken, lately, carried);
        return in(what, 0, all.size() - 1) ? all.get(what) : -1;
    }
}
