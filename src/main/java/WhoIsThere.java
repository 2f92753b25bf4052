/**
 * A house of nets on which helpers find one another by letters to all, tick by tick.
 *
 * <p>The words in the names below (host, service, claim, bye, telling, keeper, bridge) are those of
 * the document, ../shared/DOC.md, whose numbered promises this class keeps.
 */
public final class WhoIsThere {
    public static final int NONE = -1;

    private static final int NETS = 4;
    private static final int MOST_HOSTS = 12;
    private static final int MOST_SERVICES = 32;
    private static final int MOST_SERVICES_OF_A_HOST = 4;
    private static final int KINDS = 16;
    private static final int LAST_NAME = 250;
    private static final int TOP_RANK = 1000;
    private static final int ALL_MARKS = 255;
    private static final int ALL_KINDS = 65535;
    private static final int SHORTEST_LIFE = 4;
    private static final int LONGEST_LIFE = 200;
    private static final int FIRST_CLAIMS = 3;
    private static final int LOTS = 4;
    private static final int MOST_LETTERS_TOLD_OF = 100;
    private static final int MOST_TICKS_A_CALL = 50;
    private static final int LAST_TICK = 30000;

    // The states are numbered as look and service answer them.
    private static final int GONE = 0;
    private static final int ASLEEP = 1;
    private static final int AWAKE = 2;
    private static final int LEAVING = 3;
    private static final int CLAIMING = 1;
    private static final int HELD = 2;

    private final Host[] hosts = new Host[MOST_HOSTS];
    private final Service[] services = new Service[MOST_SERVICES];
    private int hostCount;
    private int serviceCount;
    private int now;
    private int letters;
    private int lettersLately;
    private int lost;
    private int yields;
    private int lies;
    private int leftOut;
    private int woken;
    private int takenUp;

    public WhoIsThere() {
    }

    public int host(int net, int from, int to, int rank) {
        boolean namesFit = from >= 1 && from <= to && to <= LAST_NAME;
        if (!isNet(net) || !namesFit || rank < 0 || rank > TOP_RANK || hostCount >= MOST_HOSTS) {
            return NONE;
        }
        Host added = new Host(hostCount, net, from, to, rank);
        hosts[hostCount] = added;
        hostCount++;
        return added.number;
    }

    public int offer(int host, int kind, int name, int marks, int life) {
        Host owner = stayingHelper(host);
        if (owner == null || !owner.hasForName(name)) {
            return NONE;
        }
        return addService(owner, kind, name, marks, life, false);
    }

    public int lie(int host, int kind, int name, int marks, int life) {
        Host owner = stayingHelper(host);
        if (owner == null || name < 1 || name > LAST_NAME) {
            return NONE;
        }
        return addService(owner, kind, name, marks, life, true);
    }

    public boolean drop(int service) {
        Service dropped = serviceInCare(service);
        if (dropped == null) {
            return false;
        }
        dropped.end();
        return true;
    }

    public boolean change(int service, int marks) {
        Service changed = serviceInCare(service);
        if (changed == null || !areMarks(marks)) {
            return false;
        }
        changed.marks = marks;
        if (changed.state == HELD) {
            changed.renewal = now;
        }
        return true;
    }

    public boolean ask(int host, int kind, int marks) {
        Host asker = stayingHelper(host);
        if (asker == null || !isKind(kind) || !areMarks(marks) || asker.asks.has(kind)) {
            return false;
        }
        asker.asks.put(kind, marks, now + lotOf(asker));
        return true;
    }

    public boolean sleep(int host, int proxy) {
        Host sleeper = stayingHelper(host);
        Host speaker = stayingHelper(proxy);
        if (sleeper == null || speaker == null || sleeper == speaker) {
            return false;
        }
        if (sleeper.net != speaker.net || sleeper.isKeeper) {
            return false;
        }
        sleeper.state = ASLEEP;
        sleeper.proxy = speaker;
        return true;
    }

    public boolean wake(int host) {
        Host sleeper = hostAt(host);
        if (sleeper == null || sleeper.state != ASLEEP) {
            return false;
        }
        sleeper.state = AWAKE;
        return true;
    }

    public boolean fall(int host) {
        Host fallen = hostAt(host);
        if (fallen == null || fallen.state == GONE) {
            return false;
        }
        for (int s = 0; s < serviceCount; s++) {
            if (services[s].host == fallen) {
                services[s].end();
                services[s].hasBye = false;
            }
        }
        fallen.goAway();
        return true;
    }

    public boolean leave(int host) {
        Host leaver = stayingHost(host);
        if (leaver == null) {
            return false;
        }
        for (int s = 0; s < serviceCount; s++) {
            if (services[s].host == leaver) {
                services[s].end();
            }
        }
        for (int h = 0; h < hostCount; h++) {
            if (hosts[h].proxy == leaver) {
                rouse(hosts[h]);
            }
        }
        leaver.state = LEAVING;
        return true;
    }

    public boolean keeper(int host, boolean is) {
        Host helper = stayingHelper(host);
        if (helper == null || helper.isKeeper == is) {
            return false;
        }
        helper.isKeeper = is;
        return true;
    }

    public boolean bridge(int host, int net, int kinds) {
        Host carrier = stayingHelper(host);
        if (carrier == null || !isNet(net) || net == carrier.net || kinds < 0 || kinds > ALL_KINDS) {
            return false;
        }
        if (carrier.isKeeper || !carrier.asks.isEmpty()) {
            return false;
        }
        if (hasHadServices(carrier) || isProxyOfASleeper(carrier)) {
            return false;
        }
        carrier.store.clear();
        carrier.answers.clear();
        carrier.bridge = new Bridge(net, kinds);
        return true;
    }

    public boolean lose(int host, int n) {
        Host writer = hostAt(host);
        if (writer == null || n < 0 || n > MOST_LETTERS_TOLD_OF) {
            return false;
        }
        writer.toLose = n;
        return true;
    }

    public boolean deaf(int host, int n) {
        Host hearer = hostAt(host);
        if (hearer == null || n < 0 || n > MOST_LETTERS_TOLD_OF) {
            return false;
        }
        hearer.toMiss = n;
        return true;
    }

    public boolean join(int a, int b) {
        if (!isNet(a) || !isNet(b) || a == b) {
            return false;
        }
        for (int h = 0; h < hostCount; h++) {
            hosts[h].move(b, a);
        }
        for (int s = 0; s < serviceCount; s++) {
            if (services[s].state == HELD && services[s].host.net == a) {
                services[s].renewal = now;
            }
        }
        return true;
    }

    public int tick(int n) {
        if (n < 1 || n > MOST_TICKS_A_CALL || now + n > LAST_TICK) {
            return NONE;
        }
        for (int i = 0; i < n; i++) {
            holdClaimedNames();
            writeLetters();
            hearLetters();
            forgetWhatEnds();
            now++;
        }
        return now;
    }

    public int find(int host, int kind, int marks, int k) {
        Host finder = hostAt(host);
        if (finder == null || k < 0) {
            return NONE;
        }
        for (int s = 0; s < serviceCount; s++) {
            if (isFound(finder.store, s, kind, marks)) {
                int ahead = 0;
                for (int other = 0; other < serviceCount; other++) {
                    if (isFound(finder.store, other, kind, marks)
                            && finder.store.name[other] < finder.store.name[s]) {
                        ahead++;
                    }
                }
                if (ahead == k) {
                    return s;
                }
            }
        }
        return NONE;
    }

    public int record(int host, int service, int what) {
        Host keeping = hostAt(host);
        if (keeping == null || serviceAt(service) == null || !keeping.store.has(service)) {
            return NONE;
        }
        switch (what) {
            case 0:
                return keeping.store.name[service];
            case 1:
                return keeping.store.marks[service];
            case 2:
                return keeping.store.left(service, now);
            case 3:
                return keeping.store.life[service];
            default:
                return NONE;
        }
    }

    public int service(int service, int what) {
        Service seen = serviceAt(service);
        if (seen == null) {
            return NONE;
        }
        switch (what) {
            case 0:
                return seen.state;
            case 1:
                return seen.name;
            case 2:
                return seen.state == CLAIMING ? seen.claims : 0;
            case 3:
                return seen.marks;
            case 4:
                return seen.host.number;
            case 5:
                return seen.state == HELD ? seen.renewal : NONE;
            case 6:
                return seen.hasBye ? 1 : 0;
            case 7:
                return seen.yielded;
            default:
                return NONE;
        }
    }

    public int look(int host, int what) {
        Host seen = hostAt(host);
        if (seen == null) {
            return NONE;
        }
        switch (what) {
            case 0:
                return seen.state;
            case 1:
                return seen.net;
            case 2:
                return seen.bridge == null ? NONE : seen.bridge.net;
            case 3:
                return hasProxyAwake(seen) ? seen.proxy.number : NONE;
            case 4:
                return seen.written;
            case 5:
                return seen.store.size();
            case 6:
                return seen.isKeeper ? 1 : 0;
            case 7:
                return seen.asks.size();
            case 8:
                return seen.answers.size();
            default:
                return NONE;
        }
    }

    public int reach(int host, int service) {
        Host seeker = hostAt(host);
        Service sought = serviceAt(service);
        if (seeker == null || sought == null || !seeker.store.has(service)) {
            return NONE;
        }
        if (seeker.state != AWAKE && seeker.state != LEAVING) {
            return NONE;
        }
        if (sought.state != HELD || sought.name != seeker.store.name[service]) {
            return 0;
        }
        if (sought.host.state == AWAKE) {
            return 1;
        }
        if (!hasProxyAwake(sought.host)) {
            return 0;
        }
        rouse(sought.host);
        return 2;
    }

    public int twice(int net) {
        if (!isNet(net)) {
            return NONE;
        }
        int pairs = 0;
        for (int a = 0; a < serviceCount; a++) {
            if (isSpokenForOn(services[a], net)) {
                for (int b = a + 1; b < serviceCount; b++) {
                    if (services[a].name == services[b].name && isSpokenForOn(services[b], net)) {
                        pairs++;
                    }
                }
            }
        }
        return pairs;
    }

    public int count(int what) {
        switch (what) {
            case 0:
                return now;
            case 1:
                return hostCount;
            case 2:
                return serviceCount;
            case 3:
                return letters;
            case 4:
                return lost;
            case 5:
                return yields;
            case 6:
                return lies;
            case 7:
                return leftOut;
            case 8:
                return woken;
            case 9:
                return lettersLately;
            case 10:
                return takenUp;
            default:
                return NONE;
        }
    }

    private static boolean isNet(int net) {
        return net >= 0 && net < NETS;
    }

    private static boolean isKind(int kind) {
        return kind >= 0 && kind < KINDS;
    }

    private static boolean areMarks(int marks) {
        return marks >= 0 && marks <= ALL_MARKS;
    }

    private Host hostAt(int number) {
        return number >= 0 && number < hostCount ? hosts[number] : null;
    }

    private Host stayingHost(int number) {
        Host host = hostAt(number);
        return host != null && host.state == AWAKE ? host : null;
    }

    private Host stayingHelper(int number) {
        Host host = stayingHost(number);
        return host != null && host.bridge == null ? host : null;
    }

    private Service serviceAt(int number) {
        return number >= 0 && number < serviceCount ? services[number] : null;
    }

    private Service serviceInCare(int number) {
        Service service = serviceAt(number);
        if (service == null || service.state == GONE || service.host.state != AWAKE) {
            return null;
        }
        return service;
    }

    private int addService(Host owner, int kind, int name, int marks, int life, boolean isFalse) {
        boolean lifeFits = life >= SHORTEST_LIFE && life <= LONGEST_LIFE;
        if (!isKind(kind) || !areMarks(marks) || !lifeFits || serviceCount >= MOST_SERVICES) {
            return NONE;
        }
        if (liveServicesOf(owner) >= MOST_SERVICES_OF_A_HOST || isNameTaken(owner, name)) {
            return NONE;
        }
        Service added = new Service(serviceCount, owner, kind, name, marks, life, isFalse);
        if (isFalse) {
            added.hold(now);
        }
        services[serviceCount] = added;
        serviceCount++;
        return added.number;
    }

    private int liveServicesOf(Host owner) {
        int live = 0;
        for (int s = 0; s < serviceCount; s++) {
            if (services[s].host == owner && services[s].state != GONE) {
                live++;
            }
        }
        return live;
    }

    private boolean isNameTaken(Host owner, int name) {
        for (int s = 0; s < serviceCount; s++) {
            Service other = services[s];
            if (other.host == owner && other.name == name && other.state != GONE) {
                return true;
            }
        }
        return false;
    }

    private boolean hasHadServices(Host owner) {
        for (int s = 0; s < serviceCount; s++) {
            if (services[s].host == owner) {
                return true;
            }
        }
        return false;
    }

    private boolean isProxyOfASleeper(Host speaker) {
        for (int h = 0; h < hostCount; h++) {
            if (hosts[h].state == ASLEEP && hosts[h].proxy == speaker) {
                return true;
            }
        }
        return false;
    }

    private boolean hasProxyAwake(Host host) {
        return host.state == ASLEEP && host.proxy != null && host.proxy.state == AWAKE;
    }

    private boolean isSpokenForOn(Service service, int net) {
        if (service.state != HELD || service.isFalse) {
            return false;
        }
        // A sleeper and its proxy are at home on one net, and joins move both.
        return service.host.net == net && (service.host.state == AWAKE || hasProxyAwake(service.host));
    }

    private boolean isFound(Store store, int service, int kind, int marks) {
        return store.has(service)
                && services[service].kind == kind
                && (store.marks[service] & marks) == marks;
    }

    private int lotOf(Host host) {
        return (5 * host.number + 3 * now) % LOTS;
    }

    private void rouse(Host host) {
        if (host.state == ASLEEP) {
            host.state = AWAKE;
            woken++;
        }
    }

    /** Whether a host that is awake speaks for a service now. */
    private boolean speaksFor(Host host, Service service) {
        if (service.host == host) {
            return service.state != GONE;
        }
        return service.state == HELD && service.host.state == ASLEEP && service.host.proxy == host;
    }

    private boolean isStronger(Service service, Service other) {
        if (service.host == other.host) {
            return service.number < other.number;
        }
        if (service.host.rank != other.host.rank) {
            return service.host.rank > other.host.rank;
        }
        return service.host.number < other.host.number;
    }

    private void holdClaimedNames() {
        for (int s = 0; s < serviceCount; s++) {
            Service service = services[s];
            if (service.state == CLAIMING && service.claims == 0 && service.host.state == AWAKE) {
                service.hold(now);
            }
        }
    }

    private void writeLetters() {
        lettersLately = 0;
        for (int h = 0; h < hostCount; h++) {
            Host writer = hosts[h];
            // Those of the tick before would be heard again otherwise, of hosts silent now too.
            writer.clearLetters();
            if (writer.state == LEAVING) {
                writeByes(writer);
                writer.goAway();
                post(writer, writer.letter, writer.net);
            } else if (writer.state == AWAKE && writer.bridge != null) {
                writeCarried(writer, writer.bridge);
            } else if (writer.state == AWAKE) {
                writeAsks(writer);
                writeClaims(writer);
                writeByes(writer);
                writeTellings(writer);
                post(writer, writer.letter, writer.net);
            }
        }
    }

    private void writeAsks(Host writer) {
        if (writer.asks.isEmpty()) {
            return;
        }
        for (int kind = 0; kind < KINDS; kind++) {
            if (writer.asks.isDue(kind, now)) {
                writer.letter.addAsk(kind, writer.asks.marks[kind], knownTo(writer, kind), 0);
                writer.asks.remove(kind);
            }
        }
    }

    private void writeClaims(Host writer) {
        for (int s = 0; s < serviceCount; s++) {
            Service own = services[s];
            if (own.host == writer && own.state == CLAIMING && own.claims > 0) {
                writer.letter.addClaim(s, own.name, 0);
                own.claims--;
            }
        }
    }

    private void writeByes(Host writer) {
        for (int s = 0; s < serviceCount; s++) {
            Service own = services[s];
            if (own.host == writer && own.hasBye) {
                writer.letter.addBye(s, 0);
                own.hasBye = false;
            }
        }
    }

    private void writeTellings(Host writer) {
        for (int s = 0; s < serviceCount; s++) {
            Service told = services[s];
            boolean renewalDue = told.state == HELD && told.renewal <= now;
            if (writer.answers.isDue(s, now)) {
                writeTelling(writer, told, writer.isKeeper);
                // Gone even if there was nothing to tell of.
                writer.answers.remove(s);
            } else if (renewalDue) {
                writeTelling(writer, told, false);
            }
        }
    }

    private void writeTelling(Host writer, Service told, boolean fromRecordToo) {
        int s = told.number;
        if (speaksFor(writer, told)) {
            if (told.state == HELD) {
                writer.letter.addTelling(s, told.name, told.marks, told.life, 0);
                told.renewal = now + told.life / 2;
            }
        } else if (fromRecordToo && writer.store.has(s)) {
            int life = writer.store.left(s, now) - 1;
            if (life > 0) {
                writer.letter.addTelling(s, writer.store.name[s], writer.store.marks[s], life, 0);
            }
        }
    }

    private void writeCarried(Host writer, Bridge bridge) {
        if (writer.net == bridge.net) {
            return;
        }
        Letter emptied = writer.letter;
        writer.letter = bridge.waitingForHome;
        bridge.waitingForHome = emptied;
        emptied = bridge.letter;
        bridge.letter = bridge.waitingForSecond;
        bridge.waitingForSecond = emptied;
        post(writer, writer.letter, writer.net);
        post(writer, bridge.letter, bridge.net);
    }

    private void post(Host writer, Letter letter, int net) {
        if (letter.isEmpty()) {
            return;
        }
        letter.net = net;
        writer.written++;
        letters++;
        lettersLately++;
    }

    private void hearLetters() {
        for (int h = 0; h < hostCount; h++) {
            Host writer = hosts[h];
            sendOut(writer, writer.letter);
            if (writer.bridge != null) {
                sendOut(writer, writer.bridge.letter);
            }
        }
    }

    private void sendOut(Host writer, Letter letter) {
        if (letter.isEmpty()) {
            return;
        }
        if (writer.toLose > 0) {
            writer.toLose--;
            lost++;
            return;
        }
        for (int h = 0; h < hostCount; h++) {
            Host hearer = hosts[h];
            // A letter may wake a host whose turn is still to come: so each is looked at in its turn.
            if (hearer != writer && hearer.state == AWAKE && hearer.isOn(letter.net)) {
                if (hearer.toMiss > 0) {
                    hearer.toMiss--;
                } else if (hearer.bridge != null) {
                    takeUp(hearer, hearer.bridge, letter);
                } else {
                    hearLetter(hearer, writer, letter);
                }
            }
        }
    }

    private void takeUp(Host host, Bridge bridge, Letter heard) {
        boolean atHome = heard.net == host.net;
        Letter waiting = atHome ? bridge.waitingForSecond : bridge.waitingForHome;
        int otherNet = atHome ? bridge.net : host.net;
        int before = waiting.size();
        int named = heard.claims | heard.byes | heard.tellings;
        for (int kind = 0; kind < KINDS && heard.asks != 0; kind++) {
            if (bridge.carries(kind)) {
                waiting.takeAsk(heard, kind, otherNet);
            }
        }
        for (int s = 0; s < serviceCount; s++) {
            if (isIn(named, s) && bridge.carries(services[s].kind)) {
                waiting.takeClaim(heard, s, otherNet);
                waiting.takeBye(heard, s, otherNet);
                waiting.takeTelling(heard, s, otherNet);
            }
        }
        takenUp += waiting.size() - before;
    }

    private void hearLetter(Host hearer, Host writer, Letter letter) {
        if (letter.asks != 0) {
            for (int kind = 0; kind < KINDS; kind++) {
                if (letter.hasAsk(kind)) {
                    hearAsk(hearer, writer, letter, kind);
                }
            }
        }
        if (letter.claims != 0) {
            for (int s = 0; s < serviceCount; s++) {
                if (letter.hasClaim(s)) {
                    contend(hearer, services[s], letter.claimName[s], false);
                }
            }
        }
        hearer.store.removeAll(letter.byes);
        if (letter.tellings != 0) {
            for (int s = 0; s < serviceCount; s++) {
                if (letter.hasTelling(s)) {
                    hearTelling(hearer, services[s], letter);
                }
            }
        }
    }

    private void hearAsk(Host hearer, Host writer, Letter letter, int kind) {
        int marks = letter.askMarks[kind];
        int known = letter.askKnown[kind];
        Asks own = hearer.asks;
        if (own.has(kind) && own.marks[kind] == marks && (known & ~knownTo(hearer, kind)) == 0) {
            own.remove(kind);
        }
        Host keeper = leastKeeperOn(letter.net, writer);
        if (keeper != null && keeper != hearer) {
            return;
        }
        int due = now + 1 + lotOf(hearer);
        for (int s = 0; s < serviceCount; s++) {
            if (services[s].kind == kind && !isIn(known, s) && canAnswer(hearer, s, marks)) {
                hearer.answers.comeDue(s, due);
            }
        }
    }

    /** Whether a host has a service to tell of that has the marks; records are told by keepers alone. */
    private boolean canAnswer(Host host, int number, int marks) {
        Service service = services[number];
        if (speaksFor(host, service)) {
            return service.state == HELD && (service.marks & marks) == marks;
        }
        return host.isKeeper
                && host.store.has(number)
                && (host.store.marks[number] & marks) == marks;
    }

    private Host leastKeeperOn(int net, Host writer) {
        for (int h = 0; h < hostCount; h++) {
            Host host = hosts[h];
            if (host.isKeeper && host != writer && host.state == AWAKE && host.net == net) {
                return host;
            }
        }
        return null;
    }

    /** The services of a kind, as bits, of which a host has a record that is still fresh. */
    private int knownTo(Host host, int kind) {
        int known = 0;
        for (int s = 0; s < serviceCount; s++) {
            if (services[s].kind == kind && host.store.isFresh(s, now)) {
                known |= 1 << s;
            }
        }
        return known;
    }

    private void hearTelling(Host hearer, Service told, Letter letter) {
        int s = told.number;
        int name = letter.tellName[s];
        int life = letter.tellLife[s];
        if (!told.host.hasForName(name)) {
            lies++;
            return;
        }
        contend(hearer, told, name, true);
        if (2 * life >= told.life) {
            hearer.answers.remove(s);
        }
        if (told.host == hearer) {
            return;
        }
        Service rival = otherRecorded(hearer.store, told, name);
        if (rival != null && isStronger(rival, told)) {
            leftOut++;
            return;
        }
        if (rival != null) {
            hearer.store.remove(rival.number);
        }
        hearer.store.put(s, name, letter.tellMarks[s], life, now + 1 + life);
    }

    /** The other service of which the store has a record by that name; no store has two of one name. */
    private Service otherRecorded(Store store, Service told, int name) {
        for (int s = 0; s < serviceCount; s++) {
            if (store.name[s] == name && s != told.number && store.has(s)) {
                return services[s];
            }
        }
        return null;
    }

    /** The hearer defends, or yields, what it speaks for by a name that another service claims or tells. */
    private void contend(Host hearer, Service rival, int name, boolean isTold) {
        for (int s = 0; s < serviceCount; s++) {
            Service mine = services[s];
            boolean isMeant = mine.name == name && mine != rival && !mine.isFalse;
            if (isMeant && speaksFor(hearer, mine)) {
                boolean rivalIsStronger = isStronger(rival, mine);
                if (mine.state == CLAIMING && (isTold || rivalIsStronger)) {
                    giveWay(mine);
                } else if (mine.state == HELD && isTold && rivalIsStronger) {
                    giveWay(mine);
                } else if (mine.state == HELD) {
                    hearer.answers.comeDue(s, now + 1);
                }
            }
        }
    }

    private void giveWay(Service service) {
        Host owner = service.host;
        int chosen = service.name;
        int next = service.name;
        // As many turns as the host has other names: the old one stays if all of those are taken.
        for (int turn = owner.from; turn < owner.to && chosen == service.name; turn++) {
            next = next == owner.to ? owner.from : next + 1;
            if (!isNameTaken(owner, next)) {
                chosen = next;
            }
        }
        service.claimAnew(chosen);
        yields++;
        rouse(owner);
    }

    private void forgetWhatEnds() {
        for (int h = 0; h < hostCount; h++) {
            hosts[h].store.removeEnding(now + 1);
        }
    }

    private static boolean isIn(int bits, int number) {
        return (bits >>> number & 1) != 0;
    }

    /** What offers itself by a name. */
    private static final class Service {
        final int number;
        final Host host;
        final int kind;
        final int life;
        final boolean isFalse;
        int name;
        int marks;
        int state = CLAIMING;
        int claims = FIRST_CLAIMS;
        int renewal;
        boolean hasBye;
        int yielded;

        Service(int number, Host host, int kind, int name, int marks, int life, boolean isFalse) {
            this.number = number;
            this.host = host;
            this.kind = kind;
            this.name = name;
            this.marks = marks;
            this.life = life;
            this.isFalse = isFalse;
        }

        void hold(int tick) {
            state = HELD;
            renewal = tick;
        }

        void end() {
            // A bye that waits already stays, whatever the service has become since.
            hasBye = hasBye || state == HELD;
            state = GONE;
        }

        void claimAnew(int newName) {
            hasBye = hasBye || state == HELD;
            name = newName;
            state = CLAIMING;
            claims = FIRST_CLAIMS;
            yielded++;
        }
    }

    /** A helper at home on a net; with a bridge, one that carries letters. */
    private static final class Host {
        final int number;
        final int from;
        final int to;
        final int rank;
        final Store store = new Store();
        final Asks asks = new Asks();
        final Answers answers = new Answers();
        int net;
        int state = AWAKE;
        boolean isKeeper;
        Host proxy;
        Bridge bridge;
        int toLose;
        int toMiss;
        int written;
        Letter letter = new Letter();

        Host(int number, int net, int from, int to, int rank) {
            this.number = number;
            this.net = net;
            this.from = from;
            this.to = to;
            this.rank = rank;
        }

        boolean hasForName(int name) {
            return name >= from && name <= to;
        }

        boolean isOn(int aNet) {
            if (bridge == null) {
                return net == aNet;
            }
            // A bridge both of whose nets are one is on none, as far as letters go.
            return net != bridge.net && (net == aNet || bridge.net == aNet);
        }

        void move(int fromNet, int toNet) {
            if (net == fromNet) {
                net = toNet;
            }
            if (bridge != null && bridge.net == fromNet) {
                bridge.net = toNet;
            }
        }

        void goAway() {
            state = GONE;
            isKeeper = false;
            store.clear();
            asks.clear();
            answers.clear();
        }

        void clearLetters() {
            letter.clear();
            if (bridge != null) {
                bridge.letter.clear();
            }
        }
    }

    /** The second net of a host, with what it writes there and what waits to be carried each way. */
    private static final class Bridge {
        final int kinds;
        int net;
        Letter letter = new Letter();
        Letter waitingForHome = new Letter();
        Letter waitingForSecond = new Letter();

        Bridge(int net, int kinds) {
            this.net = net;
            this.kinds = kinds;
        }

        boolean carries(int kind) {
            return isIn(kinds, kind);
        }
    }

    /** The records of a host, by service. */
    private static final class Store {
        final int[] name = new int[MOST_SERVICES];
        final int[] marks = new int[MOST_SERVICES];
        final int[] life = new int[MOST_SERVICES];
        final int[] end = new int[MOST_SERVICES];
        private int held;

        boolean has(int service) {
            return isIn(held, service);
        }

        int size() {
            return Integer.bitCount(held);
        }

        int left(int service, int tick) {
            return end[service] - tick;
        }

        boolean isFresh(int service, int tick) {
            return isIn(held, service) && 2 * (end[service] - tick) > life[service];
        }

        void put(int service, int itsName, int itsMarks, int itsLife, int itsEnd) {
            held |= 1 << service;
            name[service] = itsName;
            marks[service] = itsMarks;
            life[service] = itsLife;
            end[service] = itsEnd;
        }

        void remove(int service) {
            held &= ~(1 << service);
        }

        void removeAll(int services) {
            held &= ~services;
        }

        void removeEnding(int tick) {
            if (held == 0) {
                return;
            }
            for (int service = 0; service < MOST_SERVICES; service++) {
                if (end[service] <= tick && has(service)) {
                    remove(service);
                }
            }
        }

        void clear() {
            held = 0;
        }
    }

    /** The asks of a host that wait, by kind. */
    private static final class Asks {
        final int[] marks = new int[KINDS];
        private final int[] due = new int[KINDS];
        private int waiting;

        boolean has(int kind) {
            return isIn(waiting, kind);
        }

        boolean isDue(int kind, int tick) {
            return has(kind) && due[kind] <= tick;
        }

        boolean isEmpty() {
            return waiting == 0;
        }

        int size() {
            return Integer.bitCount(waiting);
        }

        void put(int kind, int itsMarks, int tick) {
            waiting |= 1 << kind;
            marks[kind] = itsMarks;
            due[kind] = tick;
        }

        void remove(int kind) {
            waiting &= ~(1 << kind);
        }

        void clear() {
            waiting = 0;
        }
    }

    /** The answers of a host that wait, by service. */
    private static final class Answers {
        private final int[] due = new int[MOST_SERVICES];
        private int waiting;

        boolean isDue(int service, int tick) {
            return isIn(waiting, service) && due[service] <= tick;
        }

        int size() {
            return Integer.bitCount(waiting);
        }

        void comeDue(int service, int tick) {
            if (!isIn(waiting, service) || due[service] > tick) {
                waiting |= 1 << service;
                due[service] = tick;
            }
        }

        void remove(int service) {
            waiting &= ~(1 << service);
        }

        void clear() {
            waiting = 0;
        }
    }

    /**
     * What is written to a net in one tick, or waits to be. What was borne are the nets, as bits, that
     * a thing has been written to before this letter: the letter's own net comes to them.
     */
    private static final class Letter {
        int net;
        int asks;
        final int[] askMarks = new int[KINDS];
        final int[] askKnown = new int[KINDS];
        private final int[] askBorne = new int[KINDS];
        int claims;
        final int[] claimName = new int[MOST_SERVICES];
        private final int[] claimBorne = new int[MOST_SERVICES];
        int byes;
        private final int[] byeBorne = new int[MOST_SERVICES];
        int tellings;
        final int[] tellName = new int[MOST_SERVICES];
        final int[] tellMarks = new int[MOST_SERVICES];
        final int[] tellLife = new int[MOST_SERVICES];
        private final int[] tellBorne = new int[MOST_SERVICES];

        boolean isEmpty() {
            return (asks | claims | byes | tellings) == 0;
        }

        int size() {
            return Integer.bitCount(asks) + Integer.bitCount(claims)
                    + Integer.bitCount(byes) + Integer.bitCount(tellings);
        }

        void clear() {
            asks = 0;
            claims = 0;
            byes = 0;
            tellings = 0;
        }

        boolean hasAsk(int kind) {
            return isIn(asks, kind);
        }

        boolean hasClaim(int service) {
            return isIn(claims, service);
        }

        boolean hasBye(int service) {
            return isIn(byes, service);
        }

        boolean hasTelling(int service) {
            return isIn(tellings, service);
        }

        void addAsk(int kind, int marks, int known, int borne) {
            asks |= 1 << kind;
            askMarks[kind] = marks;
            askKnown[kind] = known;
            askBorne[kind] = borne;
        }

        void addClaim(int service, int name, int borne) {
            claims |= 1 << service;
            claimName[service] = name;
            claimBorne[service] = borne;
        }

        void addBye(int service, int borne) {
            byes |= 1 << service;
            byeBorne[service] = borne;
        }

        void addTelling(int service, int name, int marks, int life, int borne) {
            tellings |= 1 << service;
            tellName[service] = name;
            tellMarks[service] = marks;
            tellLife[service] = life;
            tellBorne[service] = borne;
        }

        void takeAsk(Letter heard, int kind, int otherNet) {
            int borne = heard.askBorne[kind] | 1 << heard.net;
            // Of the asks of a kind the first one heard in a tick is carried alone.
            if (heard.hasAsk(kind) && !isIn(borne, otherNet) && !hasAsk(kind)) {
                addAsk(kind, heard.askMarks[kind], heard.askKnown[kind], borne);
            }
        }

        void takeClaim(Letter heard, int service, int otherNet) {
            int borne = heard.claimBorne[service] | 1 << heard.net;
            if (heard.hasClaim(service) && !isIn(borne, otherNet)) {
                addClaim(service, heard.claimName[service], borne);
            }
        }

        void takeBye(Letter heard, int service, int otherNet) {
            int borne = heard.byeBorne[service] | 1 << heard.net;
            if (heard.hasBye(service) && !isIn(borne, otherNet)) {
                addBye(service, borne);
            }
        }

        void takeTelling(Letter heard, int service, int otherNet) {
            int borne = heard.tellBorne[service] | 1 << heard.net;
            int life = heard.tellLife[service] - 1;
            if (heard.hasTelling(service) && !isIn(borne, otherNet) && life > 0) {
                addTelling(service, heard.tellName[service], heard.tellMarks[service], life, borne);
            }
        }
    }
}
