/** Mobiles that roam among agents and keep their address; the promises stand in ../shared/DOC.md. */
public final class RoamingNet {
    private static final int AGENTS = 4;
    private static final int MOBILES = 2;
    private static final int HOME = 0;
    private static final int NOWHERE = 4;
    private static final int NONE = -1;

    private static final int TO_CORRESPONDENT = 4;
    private static final int TO_MOBILE = 5;

    private static final int ADVERT = 1;
    private static final int REQUEST = 2;
    private static final int REPLY = 3;
    private static final int DATA = 4;
    private static final int TUNNEL = 5;
    private static final int ACK = 6;

    private static final int GRANTED = 0;
    private static final int NO_PLACE = 66;
    private static final int BAD_SEAL = 131;
    private static final int OLD_ID = 133;

    private static final int CAPACITY = 40;
    private static final int FOR_EVER = Integer.MAX_VALUE;
    private static final int MOST_TICKS = 20;
    private static final int MOST_SAID = 200;
    private static final int SHORTEST_LIFE = 6;
    private static final int LONGEST_LIFE = 60;
    private static final int DEFAULT_LIFE = 20;
    private static final int DEFAULT_LIMIT = 30;
    private static final int HIGHEST_INJECTED_ID = 9999;

    private static final int ADVERT_EVERY = 4;
    private static final int HEARD_FOR = 12;
    private static final int SOON = 4;
    private static final int RETRY_AFTER = 3;
    private static final int ENTRY_FOR = 8;
    private static final int WINDOW = 3;
    private static final int RESEND_AFTER = 5;

    private final Wire wire;
    private final Message arrived;
    private final Mobile[] mobiles;
    private final HomeAgent home;
    private final ForeignAgent[] foreign;
    private final Correspondent correspondent;

    public RoamingNet(int life, int limit, int places) {
        int usedLife = isWithin(life, SHORTEST_LIFE, LONGEST_LIFE) ? life : DEFAULT_LIFE;
        int usedLimit = isWithin(limit, SHORTEST_LIFE, LONGEST_LIFE) ? limit : DEFAULT_LIMIT;
        int usedPlaces = places == 1 ? 1 : 2;
        wire = new Wire();
        arrived = new Message();
        mobiles = new Mobile[MOBILES];
        for (int m = 0; m < MOBILES; m++) {
            mobiles[m] = new Mobile(m, usedLife, wire);
        }
        home = new HomeAgent(usedLimit, wire);
        foreign = new ForeignAgent[AGENTS - 1];
        for (int a = 1; a < AGENTS; a++) {
            foreign[a - 1] = new ForeignAgent(a, usedPlaces, wire);
        }
        correspondent = new Correspondent(wire);
    }

    public boolean key(int side, int m, int secret) {
        if (!isMobile(m) || !isWithin(side, 0, 1)) {
            return false;
        }
        if (side == 1) {
            mobiles[m].secret = secret;
        } else {
            home.secrets[m] = secret;
        }
        return true;
    }

    public boolean move(int m, int place) {
        if (!isMobile(m) || !isWithin(place, 0, NOWHERE)) {
            return false;
        }
        mobiles[m].network = place;
        return true;
    }

    public boolean tick(int n) {
        if (!isWithin(n, 1, MOST_TICKS)) {
            return false;
        }
        for (int k = 0; k < n; k++) {
            passOneTick();
        }
        return true;
    }

    public int say(int m) {
        if (!isMobile(m) || correspondent.said[m] >= MOST_SAID) {
            return -1;
        }
        correspondent.said[m]++;
        correspondent.pump(m);
        return correspondent.said[m];
    }

    public boolean deliver(int i) {
        if (!wire.holds(i)) {
            return false;
        }
        // A copy, because what the arrival sends may be written into the row that becomes free.
        arrived.copyFrom(wire.rows[i]);
        wire.remove(i);
        handOver(arrived);
        return true;
    }

    public boolean drop(int i) {
        if (!wire.holds(i)) {
            return false;
        }
        wire.remove(i);
        return true;
    }

    public boolean duplicate(int i) {
        if (!wire.holds(i) || wire.isFull()) {
            return false;
        }
        wire.nextRow().copyFrom(wire.rows[i]);
        return true;
    }

    public boolean inject(int a, int m, int careOf, int lifetime, int id, int seal) {
        if (!isAgent(a) || !isMobile(m) || !isAgent(careOf)) {
            return false;
        }
        if (!isWithin(lifetime, 0, LONGEST_LIFE) || !isWithin(id, 1, HIGHEST_INJECTED_ID)) {
            return false;
        }
        if ((careOf == HOME) != (lifetime == 0) || wire.isFull()) {
            return false;
        }
        Message request = wire.sendTo(a, REQUEST, m, id);
        request.careOf = careOf;
        request.lifetime = lifetime;
        request.seal = seal;
        return true;
    }

    public int messages() {
        return wire.size;
    }

    public int message(int i) {
        return wire.holds(i) ? wire.rows[i].summary() : -1;
    }

    public int place(int m) {
        return isMobile(m) ? mobiles[m].network : -1;
    }

    public int registered(int m) {
        return isMobile(m) ? mobiles[m].agent : -1;
    }

    public int open(int m) {
        return isMobile(m) ? mobiles[m].openId : 0;
    }

    public int binding(int m) {
        if (!isMobile(m) || !home.isBound(m)) {
            return 0;
        }
        return 100 * home.careOf[m] + home.boundUntil[m] - wire.clock;
    }

    public int visit(int a, int m) {
        if (!isAgent(a) || a == HOME || !isMobile(m)) {
            return 0;
        }
        ForeignAgent agent = foreign[a - 1];
        return agent.isVisited(m) ? agent.visitUntil[m] - wire.clock : 0;
    }

    public int count(int which, int m) {
        if (!isMobile(m)) {
            return -1;
        }
        switch (which) {
            case 0:
                return mobiles[m].received;
            case 1:
                return correspondent.sent[m];
            case 2:
                return correspondent.acked[m];
            case 3:
                return correspondent.said[m];
            default:
                return -1;
        }
    }

    private void passOneTick() {
        wire.clock++;
        if (wire.clock % ADVERT_EVERY == 0) {
            for (int a = 0; a < AGENTS; a++) {
                advertise(a);
            }
        }
        for (int m = 0; m < MOBILES; m++) {
            mobiles[m].notice();
        }
        for (int m = 0; m < MOBILES; m++) {
            correspondent.resendIfDue(m);
        }
    }

    private void advertise(int a) {
        for (int m = 0; m < MOBILES; m++) {
            if (mobiles[m].network == a) {
                wire.sendInNetwork(a, ADVERT, m, a);
            }
        }
    }

    private void handOver(Message got) {
        if (got.target == TO_MOBILE) {
            mobiles[got.mobile].receive(got);
        } else if (got.target == TO_CORRESPONDENT) {
            correspondent.receive(got);
        } else if (got.target == HOME) {
            home.receive(got);
        } else {
            foreign[got.target - 1].receive(got);
        }
    }

    private static boolean isWithin(int x, int low, int high) {
        return x >= low && x <= high;
    }

    private static boolean isMobile(int m) {
        return isWithin(m, 0, MOBILES - 1);
    }

    private static boolean isAgent(int a) {
        return isWithin(a, 0, AGENTS - 1);
    }

    /** One message under way; number is the agent of an advert, the ID of a request or reply. */
    private static final class Message {
        private int kind;
        private int target;
        private int network;
        private int mobile;
        private int number;
        private int careOf;
        private int code;
        private int lifetime;
        private int seal;

        private void begin(int kind, int target, int mobile, int number) {
            this.kind = kind;
            this.target = target;
            this.mobile = mobile;
            this.number = number;
            network = NONE;
            careOf = 0;
            code = 0;
            lifetime = 0;
            seal = 0;
        }

        private void copyFrom(Message other) {
            kind = other.kind;
            target = other.target;
            network = other.network;
            mobile = other.mobile;
            number = other.number;
            careOf = other.careOf;
            code = other.code;
            lifetime = other.lifetime;
            seal = other.seal;
        }

        private int summary() {
            return 1000000 * kind + 100000 * target + 10000 * mobile + number;
        }

        private int requestSeal(int secret) {
            int h = stir(secret, REQUEST);
            h = stir(h, mobile);
            h = stir(h, careOf);
            h = stir(h, lifetime);
            return stir(h, number);
        }

        private int replySeal(int secret) {
            int h = stir(secret, REPLY);
            h = stir(h, mobile);
            h = stir(h, careOf);
            h = stir(h, code);
            h = stir(h, lifetime);
            return stir(h, number);
        }

        private static int stir(int h, int x) {
            int product = (h ^ x) * 16777619;
            return product ^ (product >>> 15);
        }
    }

    /** The clock and the messages under way, which all nodes share. */
    private static final class Wire {
        private final Message[] rows;
        private int size;
        private int clock;

        private Wire() {
            // One row more than can be under way: what is written there is lost.
            rows = new Message[CAPACITY + 1];
            for (int i = 0; i <= CAPACITY; i++) {
                rows[i] = new Message();
            }
        }

        private boolean holds(int i) {
            return i >= 0 && i < size;
        }

        private boolean isFull() {
            return size >= CAPACITY;
        }

        private Message nextRow() {
            if (isFull()) {
                return rows[CAPACITY];
            }
            size++;
            return rows[size - 1];
        }

        private void remove(int i) {
            Message gone = rows[i];
            for (int k = i + 1; k < size; k++) {
                rows[k - 1] = rows[k];
            }
            size--;
            rows[size] = gone;
        }

        private Message sendTo(int target, int kind, int mobile, int number) {
            Message sent = nextRow();
            sent.begin(kind, target, mobile, number);
            return sent;
        }

        private Message sendInNetwork(int network, int kind, int mobile, int number) {
            Message sent = sendTo(TO_MOBILE, kind, mobile, number);
            sent.network = network;
            return sent;
        }

        private void sendOn(Message got, int target, int network) {
            Message sent = nextRow();
            sent.copyFrom(got);
            sent.target = target;
            sent.network = network;
        }
    }

    /** A mobile: where it is, with whom it thinks it is registered, what it asked and received. */
    private static final class Mobile {
        private final int self;
        private final int life;
        private final Wire wire;
        private int secret;
        private int network;
        private int lastId;
        private int agent;
        private int agentUntil;
        private int heard;
        private int heardUntil;
        private int openId;
        private int openAgent;
        private int openSince;
        private int received;

        private Mobile(int self, int life, Wire wire) {
            this.self = self;
            this.life = life;
            this.wire = wire;
            agent = HOME;
            agentUntil = FOR_EVER;
            heard = NONE;
        }

        private void receive(Message got) {
            if (got.network != network) {
                return;
            }
            if (got.kind == ADVERT) {
                takeAdvert(got.number);
            } else if (got.kind == REPLY) {
                takeReply(got);
            } else if (got.kind == DATA) {
                takeData(got.number);
            }
        }

        private void takeAdvert(int a) {
            heard = a;
            heardUntil = wire.clock + HEARD_FOR;
            boolean asked = openId != 0 && openAgent == a;
            if ((agent != a || endsSoon()) && !asked) {
                registerWith(a);
            }
        }

        private boolean endsSoon() {
            return agent != HOME && agentUntil <= wire.clock + SOON;
        }

        private void registerWith(int a) {
            lastId++;
            Message request = wire.sendTo(a, REQUEST, self, lastId);
            request.careOf = a;
            request.lifetime = a == HOME ? 0 : life;
            request.seal = request.requestSeal(secret);
            openId = lastId;
            openAgent = a;
            openSince = wire.clock;
        }

        private void takeReply(Message reply) {
            if (openId == 0 || openId != reply.number) {
                return;
            }
            if (reply.code == NO_PLACE) {
                openId = 0;
            } else if (reply.seal == reply.replySeal(secret)) {
                openId = 0;
                if (reply.code == GRANTED) {
                    agent = reply.careOf;
                    agentUntil = agent == HOME ? FOR_EVER : openSince + reply.lifetime;
                }
            }
        }

        private void takeData(int number) {
            if (number == received + 1) {
                received++;
            }
            wire.sendTo(TO_CORRESPONDENT, ACK, self, received);
        }

        /** What a mobile does by itself when the clock has grown. */
        private void notice() {
            if (heardUntil <= wire.clock) {
                heard = NONE;
            }
            if (agentUntil <= wire.clock) {
                agent = NONE;
            }
            if (openId != 0 && wire.clock - openSince >= RETRY_AFTER) {
                if (openAgent == heard) {
                    registerWith(openAgent);
                } else {
                    openId = 0;
                }
            }
        }
    }

    /** Agent 0: for each mobile a secret, the last ID accepted and maybe a binding. */
    private static final class HomeAgent {
        private final int limit;
        private final Wire wire;
        private final int[] secrets;
        private final int[] lastAccepted;
        private final int[] careOf;
        private final int[] boundUntil;

        private HomeAgent(int limit, Wire wire) {
            this.limit = limit;
            this.wire = wire;
            secrets = new int[MOBILES];
            lastAccepted = new int[MOBILES];
            careOf = new int[MOBILES];
            boundUntil = new int[MOBILES];
        }

        private boolean isBound(int m) {
            return wire.clock < boundUntil[m];
        }

        private void receive(Message got) {
            if (got.kind == REQUEST) {
                takeRequest(got);
            } else if (got.kind == DATA) {
                takeData(got.mobile, got.number);
            }
        }

        private void takeRequest(Message request) {
            int m = request.mobile;
            int code = judge(request);
            int lifetime = code == GRANTED ? Math.min(request.lifetime, limit) : 0;
            if (code == GRANTED) {
                lastAccepted[m] = request.number;
                careOf[m] = request.careOf;
                // Lifetime 0 makes a binding that has ended already, which is none.
                boundUntil[m] = wire.clock + lifetime;
            }
            Message reply = request.careOf == HOME
                    ? wire.sendInNetwork(HOME, REPLY, m, request.number)
                    : wire.sendTo(request.careOf, REPLY, m, request.number);
            reply.careOf = request.careOf;
            reply.code = code;
            reply.lifetime = lifetime;
            reply.seal = reply.replySeal(secrets[m]);
        }

        private int judge(Message request) {
            int m = request.mobile;
            if (request.seal != request.requestSeal(secrets[m])) {
                return BAD_SEAL;
            }
            return request.number <= lastAccepted[m] ? OLD_ID : GRANTED;
        }

        private void takeData(int m, int number) {
            if (isBound(m)) {
                wire.sendTo(careOf[m], TUNNEL, m, number);
            } else {
                wire.sendInNetwork(HOME, DATA, m, number);
            }
        }
    }

    /** Agent 1, 2 or 3: for each mobile maybe a visit and maybe an entry, none when its time is over. */
    private static final class ForeignAgent {
        private final int self;
        private final int places;
        private final Wire wire;
        private final int[] visitUntil;
        private final int[] entryId;
        private final int[] entryUntil;

        private ForeignAgent(int self, int places, Wire wire) {
            this.self = self;
            this.places = places;
            this.wire = wire;
            visitUntil = new int[MOBILES];
            entryId = new int[MOBILES];
            entryUntil = new int[MOBILES];
        }

        private boolean isVisited(int m) {
            return wire.clock < visitUntil[m];
        }

        private boolean hasEntry(int m) {
            return wire.clock < entryUntil[m];
        }

        private boolean takesPlace(int m) {
            return isVisited(m) || hasEntry(m);
        }

        private boolean isCrowded() {
            int taken = 0;
            for (int m = 0; m < MOBILES; m++) {
                if (takesPlace(m)) {
                    taken++;
                }
            }
            return taken >= places;
        }

        private void receive(Message got) {
            if (got.kind == REQUEST) {
                takeRequest(got);
            } else if (got.kind == REPLY) {
                takeReply(got);
            } else if (got.kind == TUNNEL) {
                takeTunnel(got.mobile, got.number);
            }
        }

        private void takeRequest(Message request) {
            int m = request.mobile;
            if (request.careOf != self) {
                return;
            }
            if (!takesPlace(m) && isCrowded()) {
                Message denial = wire.sendInNetwork(self, REPLY, m, request.number);
                denial.careOf = self;
                denial.code = NO_PLACE;
                return;
            }
            entryId[m] = request.number;
            entryUntil[m] = wire.clock + ENTRY_FOR;
            wire.sendOn(request, HOME, NONE);
        }

        private void takeReply(Message reply) {
            int m = reply.mobile;
            if (!hasEntry(m) || entryId[m] != reply.number) {
                return;
            }
            entryUntil[m] = 0;
            if (reply.code == GRANTED) {
                visitUntil[m] = wire.clock + reply.lifetime;
            }
            wire.sendOn(reply, TO_MOBILE, self);
        }

        private void takeTunnel(int m, int number) {
            if (isVisited(m)) {
                wire.sendInNetwork(self, DATA, m, number);
            }
        }
    }

    /** Who sends to the mobiles: for each, how many are said, sent and acked, and when last. */
    private static final class Correspondent {
        private final Wire wire;
        private final int[] said;
        private final int[] sent;
        private final int[] acked;
        private final int[] last;

        private Correspondent(Wire wire) {
            this.wire = wire;
            said = new int[MOBILES];
            sent = new int[MOBILES];
            acked = new int[MOBILES];
            last = new int[MOBILES];
        }

        private void pump(int m) {
            while (sent[m] < said[m] && sent[m] < acked[m] + WINDOW) {
                sent[m]++;
                wire.sendTo(HOME, DATA, m, sent[m]);
                last[m] = wire.clock;
            }
        }

        private void receive(Message got) {
            int m = got.mobile;
            if (got.kind == ACK && got.number > acked[m]) {
                acked[m] = got.number;
                last[m] = wire.clock;
                pump(m);
            }
        }

        private void resendIfDue(int m) {
            if (sent[m] <= acked[m] || wire.clock - last[m] < RESEND_AFTER) {
                return;
            }
            for (int number = acked[m] + 1; number <= sent[m]; number++) {
                wire.sendTo(HOME, DATA, m, number);
            }
            last[m] = wire.clock;
        }
    }
}
