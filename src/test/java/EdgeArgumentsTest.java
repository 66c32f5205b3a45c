/** What the promises call too small or too large: the last argument that is taken and the first that is not. */
public final class EdgeArgumentsTest {
    private static final int LEAST = Integer.MIN_VALUE;
    private static final int MOST = Integer.MAX_VALUE;

    public static void main(String[] args) {
        Check c = new Check("edges of arguments");
        life(c);
        limit(c);
        places(c);
        secretsAtFirst(c);
        keySides(c);
        keyMobiles(c);
        moveMobiles(c);
        movePlaces(c);
        ticks(c);
        sayMobiles(c);
        say200(c);
        injectAgents(c);
        injectMobiles(c);
        injectCareOfs(c);
        injectLifetimes(c);
        injectLifetimeOfHome(c);
        injectIds(c);
        injectSeals(c);
        placeMobiles(c);
        registeredMobiles(c);
        openMobiles(c);
        bindingMobiles(c);
        visitAgents(c);
        visitMobiles(c);
        countWhich(c);
        countMobiles(c);
        c.end();
    }

    private static RoamingNet fresh() {
        return new RoamingNet(20, 30, 2);
    }

    private static void life(Check c) {
        c.part("LIFE is life if that is 6 .. 60, else 20");
        int[] given = {LEAST, -6, 0, 5, 6, 7, 59, 60, 61, MOST};
        int[] used = {20, 20, 20, 20, 6, 7, 59, 60, 20, 20};
        for (int k = 0; k < given.length; k++) {
            RoamingNet x = Check.registeredAt(1, given[k], 60, 2);
            c.due("binding(0) with life " + given[k], x.binding(0), 100 + used[k]);
            c.due("visit(1, 0) with life " + given[k], x.visit(1, 0), used[k]);
        }
    }

    private static void limit(Check c) {
        c.part("LIMIT is limit if that is 6 .. 60, else 30");
        int[] given = {LEAST, -6, 0, 5, 6, 7, 59, 60, 61, MOST};
        int[] used = {30, 30, 30, 30, 6, 7, 59, 60, 30, 30};
        for (int k = 0; k < given.length; k++) {
            RoamingNet x = Check.registeredAt(2, 60, given[k], 2);
            c.due("binding(0) with limit " + given[k], x.binding(0), 200 + used[k]);
            c.due("visit(2, 0) with limit " + given[k], x.visit(2, 0), used[k]);
        }
    }

    private static void places(Check c) {
        c.part("PLACES is 1 if places is 1, else 2");
        int[] given = {LEAST, -1, 0, 1, 2, 3, MOST};
        for (int places : given) {
            for (int a = 1; a < 4; a++) {
                RoamingNet x = new RoamingNet(20, 30, places);
                x.inject(a, 0, a, 9, 1, 0);
                x.inject(a, 1, a, 9, 1, 0);
                Check.deliverFirst(x, 2);
                c.list(x, 2000001, places == 1 ? 3510001 : 2010001);
            }
        }
    }

    private static void secretsAtFirst(Check c) {
        c.part("All secrets are 0");
        for (int m = 0; m < 2; m++) {
            for (int secret = -1; secret <= 1; secret++) {
                RoamingNet x = fresh();
                x.inject(0, m, 1, 9, 1, Check.requestSeal(secret, m, 1, 9, 1));
                x.deliver(0);
                c.due("binding(" + m + "), sealed with " + secret, x.binding(m), secret == 0 ? 109 : 0);
                RoamingNet y = fresh();
                y.key(0, m, secret);
                y.move(m, 1);
                y.tick(4);
                Check.deliverAll(y);
                c.due("registered(" + m + "), home has " + secret, y.registered(m), secret == 0 ? 1 : 0);
            }
        }
    }

    private static void keySides(Check c) {
        c.part("key: false if there is no such side");
        int[] sides = {LEAST, -1, 0, 1, 2, MOST};
        for (int side : sides) {
            RoamingNet x = fresh();
            c.due("key(" + side + ", 0, 9)", x.key(side, 0, 9), side == 0 || side == 1);
            x.inject(0, 0, 1, 9, 1, Check.requestSeal(9, 0, 1, 9, 1));
            x.deliver(0);
            c.due("binding(0), sealed with 9", x.binding(0), side == 0 ? 109 : 0);
            RoamingNet y = fresh();
            y.key(0, 0, 9);
            y.key(side, 0, 9);
            y.move(0, 1);
            y.tick(4);
            Check.deliverAll(y);
            c.due("registered(0), home has 9", y.registered(0), side == 1 ? 1 : 0);
        }
    }

    private static void keyMobiles(Check c) {
        c.part("key: false if there is no such mobile");
        int[] mobiles = {LEAST, -1, 0, 1, 2, MOST};
        for (int m : mobiles) {
            RoamingNet x = fresh();
            c.due("key(0, " + m + ", 9)", x.key(0, m, 9), m == 0 || m == 1);
            c.due("key(1, " + m + ", 9)", x.key(1, m, 9), m == 0 || m == 1);
            for (int each = 0; each < 2; each++) {
                x.inject(0, each, 1, 9, 1, Check.requestSeal(9, each, 1, 9, 1));
                x.deliver(x.messages() - 1);
                c.due("binding(" + each + "), sealed with 9", x.binding(each), each == m ? 109 : 0);
            }
        }
    }

    private static void moveMobiles(Check c) {
        c.part("move: false if there is no such mobile");
        int[] mobiles = {LEAST, -1, 0, 1, 2, MOST};
        for (int m : mobiles) {
            RoamingNet x = fresh();
            c.due("move(" + m + ", 2)", x.move(m, 2), m == 0 || m == 1);
            c.due("place(0)", x.place(0), m == 0 ? 2 : 0);
            c.due("place(1)", x.place(1), m == 1 ? 2 : 0);
        }
    }

    private static void movePlaces(Check c) {
        c.part("move: to network 0 .. 3, or leaves (4); false if there is no such place");
        int[] places = {LEAST, -1, 0, 1, 2, 3, 4, 5, MOST};
        for (int place : places) {
            for (int m = 0; m < 2; m++) {
                RoamingNet x = fresh();
                x.move(0, 4);
                x.move(1, 4);
                x.move(m, 1);
                boolean taken = place >= 0 && place <= 4;
                int then = taken ? place : 1;
                c.due("move(" + m + ", " + place + ")", x.move(m, place), taken);
                c.due("place(" + m + ")", x.place(m), then);
                x.tick(4);
                c.due("messages()", x.messages(), then == 4 ? 0 : 1);
                c.due("message(0)", x.message(0), then == 4 ? -1 : 1500000 + 10000 * m + then);
            }
        }
    }

    private static void ticks(Check c) {
        c.part("tick: false if n is not 1 .. 20");
        int[] given = {LEAST, -20, -1, 0, 1, 2, 19, 20, 21, 22, MOST};
        for (int n : given) {
            RoamingNet x = new RoamingNet(20, 60, 2);
            x.inject(0, 0, 1, 60, 1, Check.requestSeal(0, 0, 1, 60, 1));
            x.deliver(0);
            boolean taken = n >= 1 && n <= 20;
            c.due("tick(" + n + ")", x.tick(n), taken);
            c.due("binding(0) after tick(" + n + ")", x.binding(0), 160 - (taken ? n : 0));
        }
    }

    private static void sayMobiles(Check c) {
        c.part("say: -1 if there is no such mobile");
        int[] mobiles = {LEAST, -1, 0, 1, 2, MOST};
        for (int m : mobiles) {
            RoamingNet x = fresh();
            boolean taken = m == 0 || m == 1;
            c.due("say(" + m + ")", x.say(m), taken ? 1 : -1);
            c.due("messages()", x.messages(), taken ? 1 : 0);
            c.due("count(3, 0)", x.count(3, 0), m == 0 ? 1 : 0);
            c.due("count(3, 1)", x.count(3, 1), m == 1 ? 1 : 0);
        }
    }

    private static void say200(Check c) {
        c.part("say: -1 if 200 are said");
        for (int m = 0; m < 2; m++) {
            RoamingNet x = fresh();
            for (int k = 1; k <= 198; k++) {
                x.say(m);
            }
            c.due("say, the 199th", x.say(m), 199);
            c.due("say, the 200th", x.say(m), 200);
            c.due("say, the 201st", x.say(m), -1);
            c.due("count(3)", x.count(3, m), 200);
            c.due("say, the 201st again", x.say(m), -1);
            c.due("count(3) of the other", x.count(3, 1 - m), 0);
            c.due("say for the other", x.say(1 - m), 1);
            // That 200 are said keeps none of them from being sent.
            Check.deliverFirst(x, 12);
            c.due("count(1)", x.count(1, m), 6);
        }
    }

    private static int sealed(RoamingNet x, int m, int careOf, int lifetime, int id) {
        return x.inject(0, m, careOf, lifetime, id, Check.requestSeal(0, m, careOf, lifetime, id)) ? 1 : 0;
    }

    private static void injectAgents(Check c) {
        c.part("inject: no such agent");
        int[] agents = {LEAST, -1, 0, 1, 2, 3, 4, 5, MOST};
        for (int a : agents) {
            RoamingNet x = fresh();
            boolean taken = a >= 0 && a <= 3;
            c.due("inject(" + a + ", ..)", x.inject(a, 1, 2, 9, 7, 0), taken);
            c.due("messages()", x.messages(), taken ? 1 : 0);
            c.due("message(0)", x.message(0), taken ? 2010007 + 100000 * a : -1);
        }
    }

    private static void injectMobiles(Check c) {
        c.part("inject: no such mobile");
        int[] mobiles = {LEAST, -1, 0, 1, 2, MOST};
        for (int m : mobiles) {
            RoamingNet x = fresh();
            boolean taken = m == 0 || m == 1;
            c.due("inject for mobile " + m, sealed(x, m, 2, 9, 7), taken ? 1 : 0);
            c.due("messages()", x.messages(), taken ? 1 : 0);
            x.deliver(0);
            c.due("binding(0)", x.binding(0), m == 0 ? 209 : 0);
            c.due("binding(1)", x.binding(1), m == 1 ? 209 : 0);
        }
    }

    private static void injectCareOfs(Check c) {
        c.part("inject: no such care-of");
        int[] careOfs = {LEAST, -1, 1, 2, 3, 4, 5, MOST};
        for (int careOf : careOfs) {
            RoamingNet x = fresh();
            boolean taken = careOf >= 1 && careOf <= 3;
            c.due("inject with care-of " + careOf, sealed(x, 0, careOf, 9, 7), taken ? 1 : 0);
            c.due("messages()", x.messages(), taken ? 1 : 0);
            x.deliver(0);
            c.due("binding(0)", x.binding(0), taken ? 100 * careOf + 9 : 0);
        }
    }

    private static void injectLifetimes(Check c) {
        c.part("inject: lifetime is not 0 .. 60");
        int[] lifetimes = {LEAST, -1, 0, 1, 2, 59, 60, 61, MOST};
        for (int lifetime : lifetimes) {
            RoamingNet x = new RoamingNet(20, 60, 2);
            // Lifetime 0 is refused here because of the care-of.
            boolean taken = lifetime >= 1 && lifetime <= 60;
            c.due("inject for " + lifetime, sealed(x, 0, 3, lifetime, 7), taken ? 1 : 0);
            c.due("messages()", x.messages(), taken ? 1 : 0);
            x.deliver(0);
            c.due("binding(0)", x.binding(0), taken ? 300 + lifetime : 0);
        }
    }

    private static void injectLifetimeOfHome(Check c) {
        c.part("inject: care-of is 0 and lifetime is not, or the other way round");
        for (int careOf = 0; careOf < 4; careOf++) {
            int[] lifetimes = {0, 1, 60};
            for (int lifetime : lifetimes) {
                RoamingNet x = fresh();
                boolean taken = careOf == 0 ? lifetime == 0 : lifetime != 0;
                String name = "inject with care-of " + careOf + " for " + lifetime;
                c.due(name, sealed(x, 0, careOf, lifetime, 7), taken ? 1 : 0);
                c.due(name + ", messages()", x.messages(), taken ? 1 : 0);
            }
        }
    }

    private static void injectIds(Check c) {
        c.part("inject: id is not 1 .. 9999");
        int[] ids = {LEAST, -1, 0, 1, 2, 9998, 9999, 10000, 10001, MOST};
        for (int id : ids) {
            RoamingNet x = fresh();
            boolean taken = id >= 1 && id <= 9999;
            c.due("inject with ID " + id, sealed(x, 1, 3, 9, id), taken ? 1 : 0);
            c.due("message(0)", x.message(0), taken ? 2010000 + id : -1);
            x.deliver(0);
            c.due("binding(1)", x.binding(1), taken ? 309 : 0);
        }
    }

    private static void injectSeals(Check c) {
        c.part("inject: any seal");
        int[] seals = {LEAST, -1, 0, 1, MOST};
        for (int seal : seals) {
            RoamingNet x = fresh();
            c.due("inject with seal " + seal, x.inject(0, 0, 1, 9, 7, seal), true);
            c.list(x, 2000007);
        }
    }

    private static void placeMobiles(Check c) {
        c.part("place: -1 if there is no such mobile");
        RoamingNet x = fresh();
        x.move(0, 4);
        x.move(1, 3);
        int[] mobiles = {LEAST, -1, 0, 1, 2, MOST};
        int[] want = {-1, -1, 4, 3, -1, -1};
        for (int k = 0; k < mobiles.length; k++) {
            c.due("place(" + mobiles[k] + ")", x.place(mobiles[k]), want[k]);
        }
    }

    private static void registeredMobiles(Check c) {
        c.part("registered: -1 if with none, or there is no such mobile");
        RoamingNet x = Check.registeredAt(3, 20, 30, 2);
        int[] mobiles = {LEAST, -1, 0, 1, 2, MOST};
        int[] want = {-1, -1, 3, 0, -1, -1};
        for (int k = 0; k < mobiles.length; k++) {
            c.due("registered(" + mobiles[k] + ")", x.registered(mobiles[k]), want[k]);
        }
        x.tick(20);
        c.due("registered(0), with none", x.registered(0), -1);
    }

    private static void openMobiles(Check c) {
        c.part("open: 0 if it has none, or there is no such mobile");
        RoamingNet x = Check.askingAt(3, 20, 30, 2);
        int[] mobiles = {LEAST, -1, 0, 1, 2, MOST};
        int[] want = {0, 0, 1, 0, 0, 0};
        for (int k = 0; k < mobiles.length; k++) {
            c.due("open(" + mobiles[k] + ")", x.open(mobiles[k]), want[k]);
        }
    }

    private static void bindingMobiles(Check c) {
        c.part("binding: 0 if there is none, or no such mobile");
        RoamingNet x = Check.registeredAt(3, 20, 30, 2);
        int[] mobiles = {LEAST, -1, 0, 1, 2, MOST};
        int[] want = {0, 0, 320, 0, 0, 0};
        for (int k = 0; k < mobiles.length; k++) {
            c.due("binding(" + mobiles[k] + ")", x.binding(mobiles[k]), want[k]);
        }
    }

    /** Mobile 0 visits agents 1, 2 and 3 and mobile 1 none. */
    private static RoamingNet withThreeVisits() {
        RoamingNet x = fresh();
        for (int a = 1; a < 4; a++) {
            x.inject(a, 0, a, 10 + a, a, Check.requestSeal(0, 0, a, 10 + a, a));
            Check.deliverFirst(x, 3);
            x.drop(0);
        }
        return x;
    }

    private static void visitAgents(Check c) {
        c.part("visit: 0 if there is no such foreign agent");
        RoamingNet x = withThreeVisits();
        int[] agents = {LEAST, -1, 0, 1, 2, 3, 4, 5, MOST};
        int[] want = {0, 0, 0, 11, 12, 13, 0, 0, 0};
        for (int k = 0; k < agents.length; k++) {
            c.due("visit(" + agents[k] + ", 0)", x.visit(agents[k], 0), want[k]);
            c.due("visit(" + agents[k] + ", 1)", x.visit(agents[k], 1), 0);
        }
    }

    private static void visitMobiles(Check c) {
        c.part("visit: 0 if there is no such mobile");
        RoamingNet x = withThreeVisits();
        int[] mobiles = {LEAST, -1, 1, 2, MOST};
        for (int m : mobiles) {
            for (int a = 0; a < 5; a++) {
                c.due("visit(" + a + ", " + m + ")", x.visit(a, m), 0);
            }
        }
    }

    /** Mobile 1 has received 2, and of 5 said 4 are sent and 1 acked. */
    private static RoamingNet withCounts() {
        RoamingNet x = fresh();
        for (int k = 0; k < 5; k++) {
            x.say(1);
        }
        Check.deliverFirst(x, 5);
        x.deliver(1);
        return x;
    }

    private static void countWhich(Check c) {
        c.part("count: -1 for another which");
        RoamingNet x = withCounts();
        int[] which = {LEAST, -1, 0, 1, 2, 3, 4, MOST};
        int[] want = {-1, -1, 2, 4, 1, 5, -1, -1};
        for (int k = 0; k < which.length; k++) {
            c.due("count(" + which[k] + ", 1)", x.count(which[k], 1), want[k]);
            c.due("count(" + which[k] + ", 0)", x.count(which[k], 0), want[k] < 0 ? -1 : 0);
        }
    }

    private static void countMobiles(Check c) {
        c.part("count: -1 if there is no such mobile");
        RoamingNet x = withCounts();
        int[] mobiles = {LEAST, -1, 2, 3, MOST};
        for (int m : mobiles) {
            for (int which = -1; which < 5; which++) {
                c.due("count(" + which + ", " + m + ")", x.count(which, m), -1);
            }
        }
    }
}
