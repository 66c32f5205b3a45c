import java.util.ArrayList;
import java.util.Arrays;
import java.util.HashMap;
import java.util.List;
import java.util.Map;
import java.util.Random;

/** All promises: long mixed runs beside a second reading of the document, written for plainness and not for room. */
public final class ModelTest {
    private static final int RUNS = 4000;
    private static final int QUESTIONS = 65;
    // Two calls a step and all questions at the end: fewer than the 512 calls that are promised.
    private static final int STEPS = 220;

    public static void main(String[] args) {
        Check c = new Check("model");
        for (int run = 0; run < RUNS; run++) {
            if (!sameAnswers(c, run)) {
                break;
            }
        }
        c.end();
    }

    private static boolean sameAnswers(Check c, int run) {
        Random random = new Random(run);
        int life = pick(random, 6, 6, 8, 12, 20, 60, 5, 61);
        int limit = pick(random, 6, 7, 9, 15, 30, 60, 5, 61);
        int places = pick(random, 1, 1, 2, 3);
        RoamingNet x = new RoamingNet(life, limit, places);
        Model y = new Model(life, limit, places);
        boolean same = true;
        for (int step = 0; step < STEPS && same; step++) {
            int[] call = nextStep(random, y, run % 4);
            c.part("run " + run + ", step " + step + ", " + Arrays.toString(call));
            same = agree(c, "the call", answer(x, call), answer(y, call));
            int q = random.nextInt(3) == 0 ? 25 + random.nextInt(40) : random.nextInt(25);
            same = same && agree(c, "question " + q, ask(x, q), ask(y, q));
        }
        for (int q = 0; q < QUESTIONS && same; q++) {
            same = agree(c, "question " + q, ask(x, q), ask(y, q));
        }
        return same;
    }

    private static boolean agree(Check c, String call, int got, int want) {
        c.due(call, got, want);
        return got == want;
    }

    private static int pick(Random random, int... from) {
        return from[random.nextInt(from.length)];
    }

    /** A call as its number and its arguments; style 0 delivers most, style 3 leaves the list full. */
    private static int[] nextStep(Random random, Model y, int style) {
        int m = random.nextInt(40) == 0 ? pick(random, -1, 2) : random.nextInt(2);
        int size = y.list.size();
        int i = random.nextInt(40) == 0 ? pick(random, -1, size, 40)
                : random.nextInt(3) == 0 && size > 0 ? random.nextInt(size) : 0;
        int roll = random.nextInt(100);
        int deliveries = 62 - 14 * style;
        if (roll < deliveries) {
            return new int[] {0, i};
        }
        roll = random.nextInt(38);
        if (roll < 9) {
            int n = random.nextInt(30) == 0 ? pick(random, 0, 21, 20, -3) : 1 + random.nextInt(4);
            return new int[] {1, n};
        }
        if (roll < 15) {
            return new int[] {2, m, random.nextInt(30) == 0 ? pick(random, -1, 5) : random.nextInt(5)};
        }
        if (roll < 21) {
            return new int[] {3, m};
        }
        if (roll < 24) {
            return new int[] {4, i};
        }
        if (roll < 29) {
            return new int[] {5, size > 0 && random.nextInt(20) > 0 ? random.nextInt(size) : i};
        }
        if (roll < 31) {
            return new int[] {6, random.nextInt(20) == 0 ? 2 : random.nextInt(2), m, random.nextInt(3) - 1};
        }
        return injection(random, y, m);
    }

    private static int[] injection(Random random, Model y, int m) {
        int careOf = random.nextInt(20) == 0 ? pick(random, -1, 4) : random.nextInt(4);
        int lifetime = careOf == 0 ? 0 : 1 + random.nextInt(12);
        if (random.nextInt(20) == 0) {
            lifetime = pick(random, -1, 0, 1, 60, 61);
        }
        int id = 1 + random.nextInt(12);
        if (m >= 0 && m < 2 && random.nextInt(3) > 0) {
            id = Math.max(1, y.mobile[m].lastId + random.nextInt(3) - 1);
        }
        if (random.nextInt(20) == 0) {
            id = pick(random, 0, 9999, 10000);
        }
        int agent = random.nextInt(2) == 0 ? careOf : random.nextInt(5) - random.nextInt(2);
        int secret = m >= 0 && m < 2 && random.nextInt(5) > 0 ? y.homeSecret[m] : 1;
        return new int[] {7, agent, m, careOf, lifetime, id, Check.requestSeal(secret, m, careOf, lifetime, id)};
    }

    private static int answer(RoamingNet x, int[] s) {
        switch (s[0]) {
            case 0: return x.deliver(s[1]) ? 1 : 0;
            case 1: return x.tick(s[1]) ? 1 : 0;
            case 2: return x.move(s[1], s[2]) ? 1 : 0;
            case 3: return x.say(s[1]);
            case 4: return x.drop(s[1]) ? 1 : 0;
            case 5: return x.duplicate(s[1]) ? 1 : 0;
            case 6: return x.key(s[1], s[2], s[3]) ? 1 : 0;
            default: return x.inject(s[1], s[2], s[3], s[4], s[5], s[6]) ? 1 : 0;
        }
    }

    private static int answer(Model y, int[] s) {
        switch (s[0]) {
            case 0: return y.deliver(s[1]) ? 1 : 0;
            case 1: return y.tick(s[1]) ? 1 : 0;
            case 2: return y.move(s[1], s[2]) ? 1 : 0;
            case 3: return y.say(s[1]);
            case 4: return y.drop(s[1]) ? 1 : 0;
            case 5: return y.duplicate(s[1]) ? 1 : 0;
            case 6: return y.key(s[1], s[2], s[3]) ? 1 : 0;
            default: return y.inject(s[1], s[2], s[3], s[4], s[5], s[6]) ? 1 : 0;
        }
    }

    /** Question q: 0 .. 11 about mobile 0, 12 .. 23 about mobile 1, 24 how many messages, 25 .. 64 each message. */
    private static int ask(RoamingNet x, int q) {
        if (q >= 24) {
            return q == 24 ? x.messages() : x.message(q - 25);
        }
        int m = q / 12;
        switch (q % 12) {
            case 0: return x.place(m);
            case 1: return x.registered(m);
            case 2: return x.open(m);
            case 3: return x.binding(m);
            case 4: case 5: case 6: case 7: return x.visit(q % 4, m);
            default: return x.count(q % 4, m);
        }
    }

    private static int ask(Model y, int q) {
        if (q >= 24) {
            return q == 24 ? y.list.size() : y.shown(q - 25);
        }
        int m = q / 12;
        switch (q % 12) {
            case 0: return y.mobile[m].place;
            case 1: return y.mobile[m].with == null ? -1 : y.mobile[m].with;
            case 2: return y.mobile[m].open == null ? 0 : y.mobile[m].open[1];
            case 3: return y.binding(m) == null ? 0 : 100 * y.binding(m)[0] + y.binding(m)[1] - y.clock;
            case 4: case 5: case 6: case 7: return Math.max(0, y.visit.getOrDefault(q % 4 + "/" + m, 0) - y.clock);
            case 8: return y.mobile[m].received;
            case 9: return y.sent[m];
            case 10: return y.acked[m];
            default: return y.said[m];
        }
    }

    private static final class Model {
        static final class Node {
            int secret;
            int place;
            int lastId;
            Integer with = 0;
            Integer withUntil;
            Integer heard;
            int heardUntil;
            int[] open;
            int received;
        }

        final int life;
        final int limit;
        final int places;
        final List<Map<String, Integer>> list = new ArrayList<>();
        final Node[] mobile = {new Node(), new Node()};
        final int[] homeSecret = new int[2];
        final int[] accepted = new int[2];
        final int[][] bindings = new int[2][];
        final Map<String, Integer> visit = new HashMap<>();
        final Map<String, int[]> entry = new HashMap<>();
        final int[] said = new int[2];
        final int[] sent = new int[2];
        final int[] acked = new int[2];
        final int[] last = new int[2];
        int clock;

        Model(int life, int limit, int places) {
            this.life = 6 <= life && life <= 60 ? life : 20;
            this.limit = 6 <= limit && limit <= 60 ? limit : 30;
            this.places = places == 1 ? 1 : 2;
        }

        /** Pairs of a name and a number; a target of 5 has the network too. */
        void send(Object... pairs) {
            Map<String, Integer> message = new HashMap<>();
            for (int k = 0; k < pairs.length; k += 2) {
                message.put((String) pairs[k], (Integer) pairs[k + 1]);
            }
            if (list.size() < 40) {
                list.add(message);
            }
        }

        void forward(Map<String, Integer> old, int target, int network) {
            Map<String, Integer> message = new HashMap<>(old);
            message.put("target", target);
            message.put("network", network);
            if (list.size() < 40) {
                list.add(message);
            }
        }

        int shown(int i) {
            if (i >= list.size()) {
                return -1;
            }
            Map<String, Integer> g = list.get(i);
            return 1000000 * g.get("kind") + 100000 * g.get("target") + 10000 * g.get("m") + g.get("n");
        }

        int[] binding(int m) {
            return bindings[m] != null && clock < bindings[m][1] ? bindings[m] : null;
        }

        boolean key(int side, int m, int secret) {
            if (m < 0 || m > 1 || side < 0 || side > 1) {
                return false;
            }
            if (side == 0) {
                homeSecret[m] = secret;
            } else {
                mobile[m].secret = secret;
            }
            return true;
        }

        boolean move(int m, int place) {
            if (m < 0 || m > 1 || place < 0 || place > 4) {
                return false;
            }
            mobile[m].place = place;
            return true;
        }

        boolean tick(int n) {
            if (n < 1 || n > 20) {
                return false;
            }
            for (int k = 0; k < n; k++) {
                clock++;
                for (int a = 0; a < 4 && clock % 4 == 0; a++) {
                    for (int m = 0; m < 2; m++) {
                        if (mobile[m].place == a) {
                            send("kind", 1, "target", 5, "network", a, "m", m, "n", a);
                        }
                    }
                }
                tickMobile(0);
                tickMobile(1);
                tickCorrespondent(0);
                tickCorrespondent(1);
            }
            return true;
        }

        void tickMobile(int m) {
            Node n = mobile[m];
            if (n.heard != null && n.heardUntil <= clock) {
                n.heard = null;
            }
            if (n.with != null && n.withUntil != null && n.withUntil <= clock) {
                n.with = null;
                n.withUntil = null;
            }
            if (n.open != null && n.open[2] + 3 <= clock) {
                int agent = n.open[0];
                n.open = null;
                if (n.heard != null && n.heard == agent) {
                    register(m, agent);
                }
            }
        }

        void tickCorrespondent(int m) {
            if (sent[m] > acked[m] && last[m] + 5 <= clock) {
                for (int number = acked[m] + 1; number <= sent[m]; number++) {
                    send("kind", 4, "target", 0, "m", m, "n", number);
                }
                last[m] = clock;
            }
        }

        void register(int m, int a) {
            Node n = mobile[m];
            n.lastId += 1;
            int lifetime = a == 0 ? 0 : life;
            int seal = Check.seal(n.secret, 2, m, a, lifetime, n.lastId);
            send("kind", 2, "target", a, "m", m, "n", n.lastId, "careOf", a, "lifetime", lifetime, "seal", seal);
            n.open = new int[] {a, n.lastId, clock};
        }

        int say(int m) {
            if (m < 0 || m > 1 || said[m] == 200) {
                return -1;
            }
            said[m]++;
            pump(m);
            return said[m];
        }

        void pump(int m) {
            while (sent[m] < Math.min(said[m], acked[m] + 3)) {
                sent[m]++;
                send("kind", 4, "target", 0, "m", m, "n", sent[m]);
                last[m] = clock;
            }
        }

        boolean drop(int i) {
            if (i < 0 || i >= list.size()) {
                return false;
            }
            list.remove(i);
            return true;
        }

        boolean duplicate(int i) {
            if (i < 0 || i >= list.size() || list.size() == 40) {
                return false;
            }
            list.add(new HashMap<>(list.get(i)));
            return true;
        }

        boolean inject(int a, int m, int careOf, int lifetime, int id, int seal) {
            boolean nodes = a >= 0 && a <= 3 && m >= 0 && m <= 1 && careOf >= 0 && careOf <= 3;
            boolean numbers = lifetime >= 0 && lifetime <= 60 && id >= 1 && id <= 9999;
            boolean fits = careOf == 0 ? lifetime == 0 : lifetime != 0;
            if (!nodes || !numbers || !fits || list.size() == 40) {
                return false;
            }
            send("kind", 2, "target", a, "m", m, "n", id, "careOf", careOf, "lifetime", lifetime, "seal", seal);
            return true;
        }

        boolean deliver(int i) {
            if (i < 0 || i >= list.size()) {
                return false;
            }
            Map<String, Integer> g = list.remove(i);
            int target = g.get("target");
            if (target == 5) {
                if (mobile[g.get("m")].place == g.get("network")) {
                    atMobile(g, g.get("m"), g.get("n"));
                }
            } else if (target == 4) {
                atCorrespondent(g.get("m"), g.get("n"));
            } else if (target == 0) {
                atHome(g, g.get("m"), g.get("n"));
            } else {
                atForeign(g, target, g.get("m"), g.get("n"));
            }
            return true;
        }

        void atMobile(Map<String, Integer> g, int m, int number) {
            Node n = mobile[m];
            if (g.get("kind") == 1) {
                n.heard = number;
                n.heardUntil = clock + 12;
                boolean registeredThere = n.with != null && n.with == number;
                boolean endsSoon = registeredThere && number != 0 && n.withUntil <= clock + 4;
                boolean asked = n.open != null && n.open[0] == number;
                if ((!registeredThere || endsSoon) && !asked) {
                    register(m, number);
                }
            } else if (g.get("kind") == 3) {
                atMobileReply(g, n, m, number);
            } else {
                if (number == n.received + 1) {
                    n.received = number;
                }
                send("kind", 6, "target", 4, "m", m, "n", n.received);
            }
        }

        void atMobileReply(Map<String, Integer> g, Node n, int m, int id) {
            if (n.open == null || n.open[1] != id) {
                return;
            }
            int careOf = g.get("careOf");
            int code = g.get("code");
            int lifetime = g.get("lifetime");
            if (code == 66) {
                n.open = null;
                return;
            }
            if (g.get("seal") != Check.seal(n.secret, 3, m, careOf, code, lifetime, id)) {
                return;
            }
            if (code == 0) {
                n.with = careOf;
                n.withUntil = careOf == 0 ? null : Integer.valueOf(n.open[2] + lifetime);
            }
            n.open = null;
        }

        void atCorrespondent(int m, int number) {
            if (number > acked[m]) {
                acked[m] = number;
                last[m] = clock;
                pump(m);
            }
        }

        void atHome(Map<String, Integer> g, int m, int number) {
            if (g.get("kind") == 4) {
                if (binding(m) != null) {
                    send("kind", 5, "target", binding(m)[0], "m", m, "n", number);
                } else {
                    send("kind", 4, "target", 5, "network", 0, "m", m, "n", number);
                }
                return;
            }
            int careOf = g.get("careOf");
            int asked = g.get("lifetime");
            int code = 0;
            int granted = 0;
            if (g.get("seal") != Check.seal(homeSecret[m], 2, m, careOf, asked, number)) {
                code = 131;
            } else if (number <= accepted[m]) {
                code = 133;
            } else {
                accepted[m] = number;
                granted = Math.min(asked, limit);
                bindings[m] = asked == 0 ? null : new int[] {careOf, clock + granted};
            }
            int seal = Check.seal(homeSecret[m], 3, m, careOf, code, granted, number);
            send("kind", 3, "target", careOf == 0 ? 5 : careOf, "network", 0, "m", m, "n", number,
                    "careOf", careOf, "code", code, "lifetime", granted, "seal", seal);
        }

        boolean takesPlace(int a, int m) {
            Integer until = visit.get(a + "/" + m);
            int[] open = entry.get(a + "/" + m);
            return until != null && clock < until || open != null && clock < open[1];
        }

        void atForeign(Map<String, Integer> g, int a, int m, int number) {
            String at = a + "/" + m;
            if (g.get("kind") == 2) {
                if (g.get("careOf") != a) {
                    return;
                }
                int taken = (takesPlace(a, 0) ? 1 : 0) + (takesPlace(a, 1) ? 1 : 0);
                if (!takesPlace(a, m) && taken == places) {
                    send("kind", 3, "target", 5, "network", a, "m", m, "n", number,
                            "careOf", a, "code", 66, "lifetime", 0, "seal", 0);
                } else {
                    entry.put(at, new int[] {number, clock + 8});
                    forward(g, 0, 0);
                }
            } else if (g.get("kind") == 3) {
                int[] open = entry.get(at);
                if (open != null && open[0] == number && clock < open[1]) {
                    entry.remove(at);
                    if (g.get("code") == 0) {
                        visit.put(at, clock + g.get("lifetime"));
                    }
                    forward(g, 5, a);
                }
            } else if (visit.containsKey(at) && clock < visit.get(at)) {
                send("kind", 4, "target", 5, "network", a, "m", m, "n", number);
            }
        }
    }
}
