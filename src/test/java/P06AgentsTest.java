/** Promise 6: deliver, what the home agent and the foreign agents do with what arrives. */
public final class P06AgentsTest {
    public static void main(String[] args) {
        Check c = new Check("promise 6, agents");
        homeLooksAtTheSeal(c);
        homeLooksAtTheId(c);
        homeGrants(c);
        homeAnswersWhere(c);
        homeData(c);
        foreignOtherCareOf(c);
        foreignDenies(c);
        foreignEntryTakesPlace(c);
        foreignVisitTakesPlace(c);
        foreignReply(c);
        foreignRefusalFreesThePlace(c);
        foreignTunnel(c);
        c.end();
    }

    private static void ask(RoamingNet x, int m, int careOf, int lifetime, int id) {
        x.inject(0, m, careOf, lifetime, id, Check.requestSeal(0, m, careOf, lifetime, id));
        x.deliver(x.messages() - 1);
    }

    private static void homeLooksAtTheSeal(Check c) {
        c.part("home, seal");
        int good = Check.requestSeal(0, 0, 1, 9, 5);
        int[] bad = {0, 1, -1, good + 1, ~good, good ^ 0x40000000,
            Check.requestSeal(1, 0, 1, 9, 5), Check.requestSeal(0, 1, 1, 9, 5),
            Check.requestSeal(0, 0, 2, 9, 5), Check.requestSeal(0, 0, 1, 8, 5),
            Check.requestSeal(0, 0, 1, 9, 6), Check.seal(0, 3, 0, 1, 9, 5)};
        for (int seal : bad) {
            RoamingNet x = new RoamingNet(20, 30, 2);
            x.inject(0, 0, 1, 9, 5, seal);
            x.deliver(0);
            c.due("binding(0)", x.binding(0), 0);
            c.list(x, 3100005);
            x.inject(0, 0, 1, 9, 5, good);
            x.deliver(1);
            c.due("binding(0) with the good seal", x.binding(0), 109);
        }
        RoamingNet y = new RoamingNet(20, 30, 2);
        y.inject(0, 0, 3, 9, 5, 1524243597);
        y.deliver(0);
        c.due("binding(0), the seal written out", y.binding(0), 309);
    }

    private static void homeLooksAtTheId(Check c) {
        c.part("home, ID");
        RoamingNet x = new RoamingNet(20, 30, 2);
        ask(x, 0, 1, 9, 5);
        c.due("binding(0) with 5", x.binding(0), 109);
        ask(x, 0, 2, 9, 5);
        c.due("binding(0) with 5 again", x.binding(0), 109);
        ask(x, 0, 2, 9, 4);
        c.due("binding(0) with 4", x.binding(0), 109);
        ask(x, 1, 3, 9, 1);
        c.due("binding(1) with 1", x.binding(1), 309);
        x.inject(0, 0, 2, 9, 9000, 1);
        x.deliver(x.messages() - 1);
        c.due("binding(0) with a bad seal", x.binding(0), 109);
        ask(x, 0, 2, 8, 6);
        c.due("binding(0) with 6", x.binding(0), 208);
        ask(x, 0, 0, 0, 6);
        c.due("binding(0), end with 6", x.binding(0), 208);
        ask(x, 0, 0, 0, 7);
        c.due("binding(0), end with 7", x.binding(0), 0);
        ask(x, 0, 2, 8, 7);
        c.due("binding(0) with 7 again", x.binding(0), 0);
        c.list(x, 3100005, 3200005, 3200004, 3310001, 3209000, 3200006, 3500006, 3500007, 3200007);
    }

    private static void homeGrants(Check c) {
        c.part("home, lifetime");
        int[] asked = {1, 9, 10, 11, 60};
        int[] granted = {1, 9, 10, 10, 10};
        for (int k = 0; k < asked.length; k++) {
            RoamingNet x = new RoamingNet(20, 10, 2);
            x.tick(3);
            ask(x, 0, 1, asked[k], 1);
            c.due("binding(0) for " + asked[k], x.binding(0), 100 + granted[k]);
            x.tick(granted[k] - 1 > 0 ? granted[k] - 1 : 20);
            c.due("binding(0) near its end", x.binding(0), granted[k] > 1 ? 101 : 0);
        }
    }

    private static void homeAnswersWhere(Check c) {
        c.part("home, answers");
        RoamingNet x = new RoamingNet(20, 30, 2);
        x.move(0, 1);
        x.move(1, 4);
        x.tick(4);
        x.deliver(0);
        x.drop(0);
        c.due("open(0)", x.open(0), 1);
        ask(x, 0, 0, 0, 1);
        c.list(x, 3500001);
        x.duplicate(0);
        x.deliver(0);
        c.due("open(0), the mobile not in network 0", x.open(0), 1);
        x.move(0, 0);
        x.deliver(0);
        c.due("open(0), the mobile in network 0", x.open(0), 0);
        for (int a = 1; a < 4; a++) {
            ask(x, 0, a, 5, 1 + a);
            c.list(x, 3000000 + 100000 * a + 1 + a);
            x.drop(0);
        }
    }

    private static void homeData(Check c) {
        c.part("home, data");
        RoamingNet x = new RoamingNet(20, 30, 2);
        x.move(0, 4);
        x.move(1, 4);
        x.say(0);
        x.duplicate(0);
        x.duplicate(0);
        x.duplicate(0);
        x.deliver(0);
        c.due("message(3) with no binding", x.message(3), 4500001);
        x.drop(3);
        ask(x, 0, 3, 4, 1);
        x.drop(3);
        x.tick(3);
        x.deliver(0);
        c.list(x, 4000001, 4000001, 5300001);
        x.drop(2);
        x.tick(1);
        x.deliver(0);
        c.list(x, 4000001, 4500001);
        x.move(0, 0);
        x.deliver(1);
        c.due("count(0, 0), data in network 0", x.count(0, 0), 1);
        c.part("home, data of the other");
        RoamingNet y = new RoamingNet(20, 30, 2);
        ask(y, 0, 3, 9, 1);
        y.drop(0);
        y.say(1);
        y.deliver(0);
        c.list(y, 4510001);
    }

    private static void foreignOtherCareOf(Check c) {
        c.part("foreign, other care-of");
        for (int careOf = 0; careOf < 4; careOf++) {
            RoamingNet x = new RoamingNet(20, 30, 2);
            int lifetime = careOf == 0 ? 0 : 9;
            x.inject(2, 0, careOf, lifetime, 1, Check.requestSeal(0, 0, careOf, lifetime, 1));
            c.due("deliver(0)", x.deliver(0), true);
            c.due("messages() with care-of " + careOf, x.messages(), careOf == 2 ? 1 : 0);
            c.due("message(0) with care-of " + careOf, x.message(0), careOf == 2 ? 2000001 : -1);
        }
    }

    private static void foreignDenies(Check c) {
        c.part("foreign, denial");
        RoamingNet x = new RoamingNet(20, 30, 1);
        x.move(0, 1);
        x.move(1, 1);
        x.tick(4);
        Check.deliverFirst(x, 2);
        c.list(x, 2100001, 2110001);
        Check.deliverFirst(x, 2);
        c.list(x, 2000001, 3510001);
        c.due("open(1)", x.open(1), 1);
        x.duplicate(1);
        x.move(1, 2);
        x.deliver(1);
        c.due("open(1), not in network 1", x.open(1), 1);
        x.move(1, 1);
        x.deliver(1);
        c.due("open(1), in network 1", x.open(1), 0);
        c.due("registered(1)", x.registered(1), 0);
        c.list(x, 2000001);
        c.part("foreign, two places");
        RoamingNet y = new RoamingNet(20, 30, 2);
        y.move(0, 1);
        y.move(1, 1);
        y.tick(4);
        Check.deliverFirst(y, 4);
        c.list(y, 2000001, 2010001);
        c.part("foreign, each its own places");
        RoamingNet z = new RoamingNet(20, 30, 1);
        z.move(0, 1);
        z.move(1, 2);
        z.tick(4);
        Check.deliverAll(z);
        c.due("visit(1, 0)", z.visit(1, 0), 20);
        c.due("visit(2, 1)", z.visit(2, 1), 20);
        c.part("foreign, an old denial");
        RoamingNet w = new RoamingNet(20, 30, 1);
        w.move(0, 1);
        w.move(1, 1);
        w.tick(4);
        Check.deliverFirst(w, 4);
        w.tick(3);
        c.due("open(1)", w.open(1), 2);
        w.deliver(1);
        c.due("open(1) after the denial of 1", w.open(1), 2);
    }

    private static void foreignEntryTakesPlace(Check c) {
        c.part("foreign, entry");
        RoamingNet x = new RoamingNet(20, 30, 1);
        x.move(0, 4);
        x.move(1, 4);
        x.tick(1);
        x.inject(1, 0, 1, 9, 1, 0);
        x.deliver(0);
        x.drop(0);
        x.tick(7);
        x.inject(1, 1, 1, 9, 1, 0);
        x.deliver(0);
        c.list(x, 3510001);
        x.drop(0);
        x.tick(1);
        x.inject(1, 1, 1, 9, 2, 0);
        x.deliver(0);
        c.list(x, 2010002);
        x.inject(1, 1, 1, 9, 3, 0);
        x.deliver(1);
        c.list(x, 2010002, 2010003);
        x.inject(1, 0, 1, 9, 4, 0);
        x.deliver(2);
        c.list(x, 2010002, 2010003, 3500004);
    }

    private static void foreignVisitTakesPlace(Check c) {
        c.part("foreign, visit");
        RoamingNet x = Check.registeredAt(1, 10, 30, 1);
        c.due("visit(1, 0)", x.visit(1, 0), 10);
        x.move(0, 4);
        x.tick(9);
        x.inject(1, 1, 1, 9, 1, 0);
        x.deliver(0);
        c.list(x, 3510001);
        x.drop(0);
        x.inject(1, 0, 1, 9, 7, 0);
        x.deliver(0);
        c.list(x, 2000007);
        x.drop(0);
        x.tick(1);
        x.inject(1, 1, 1, 9, 2, 0);
        x.deliver(0);
        // The visit is over, but the entry that came while it lasted takes the place.
        c.list(x, 3510002);
        RoamingNet y = Check.registeredAt(1, 10, 30, 1);
        y.move(0, 4);
        y.tick(10);
        y.inject(1, 1, 1, 9, 1, 0);
        y.deliver(0);
        c.list(y, 2010001);
    }

    private static RoamingNet withReplyAt(int a) {
        RoamingNet x = Check.askingAt(a, 20, 30, 2);
        Check.deliverFirst(x, 2);
        return x;
    }

    private static void foreignReply(Check c) {
        c.part("foreign, reply");
        RoamingNet x = withReplyAt(3);
        c.list(x, 3300001);
        x.duplicate(0);
        x.deliver(0);
        c.due("visit(3, 0)", x.visit(3, 0), 20);
        c.list(x, 3300001, 3500001);
        x.tick(1);
        x.deliver(0);
        c.list(x, 3500001);
        c.due("visit(3, 0) after the second reply", x.visit(3, 0), 19);
        c.part("foreign, reply while the entry lasts");
        RoamingNet y = withReplyAt(3);
        y.move(0, 4);
        y.tick(7);
        y.deliver(0);
        c.due("visit(3, 0)", y.visit(3, 0), 20);
        c.part("foreign, reply too late");
        RoamingNet z = withReplyAt(3);
        z.move(0, 4);
        z.tick(8);
        z.deliver(0);
        c.due("visit(3, 0)", z.visit(3, 0), 0);
        c.part("foreign, reply of another ID");
        RoamingNet w = withReplyAt(3);
        w.inject(3, 0, 3, 9, 2, Check.requestSeal(0, 0, 3, 9, 2));
        w.deliver(1);
        w.deliver(0);
        c.list(w, 2000002);
        c.due("visit(3, 0)", w.visit(3, 0), 0);
        w.deliver(0);
        w.deliver(0);
        c.due("visit(3, 0) with that ID", w.visit(3, 0), 9);
        c.due("binding(0)", w.binding(0), 309);
    }

    private static void foreignRefusalFreesThePlace(Check c) {
        c.part("foreign, refusal");
        RoamingNet x = new RoamingNet(20, 30, 1);
        x.move(0, 4);
        x.move(1, 4);
        x.inject(1, 0, 1, 9, 1, 12345);
        Check.deliverFirst(x, 3);
        c.list(x, 3500001);
        c.due("visit(1, 0)", x.visit(1, 0), 0);
        x.inject(1, 1, 1, 9, 1, 0);
        x.deliver(1);
        c.list(x, 3500001, 2010001);
        c.part("foreign, refusal leaves the visit");
        RoamingNet y = Check.registeredAt(1, 20, 30, 1);
        y.inject(1, 0, 1, 9, 2, 12345);
        Check.deliverFirst(y, 3);
        c.due("visit(1, 0)", y.visit(1, 0), 20);
    }

    private static void foreignTunnel(Check c) {
        c.part("foreign, tunnel");
        RoamingNet x = Check.registeredAt(2, 10, 30, 2);
        x.say(0);
        x.deliver(0);
        c.list(x, 5200001);
        x.duplicate(0);
        x.duplicate(0);
        x.duplicate(0);
        x.deliver(0);
        c.list(x, 5200001, 5200001, 5200001, 4500001);
        x.duplicate(3);
        x.move(0, 0);
        x.deliver(3);
        c.due("count(0, 0), not in network 2", x.count(0, 0), 0);
        x.move(0, 2);
        x.deliver(3);
        c.due("count(0, 0), in network 2", x.count(0, 0), 1);
        c.due("message(3)", x.message(3), 6400001);
        x.deliver(3);
        x.move(0, 4);
        x.tick(9);
        x.deliver(0);
        c.list(x, 5200001, 5200001, 4500001);
        x.tick(1);
        x.deliver(0);
        c.list(x, 5200001, 4500001);
        c.part("foreign, tunnel with no visit");
        RoamingNet y = new RoamingNet(20, 30, 2);
        ask(y, 0, 3, 9, 1);
        y.drop(0);
        y.say(0);
        y.deliver(0);
        c.list(y, 5300001);
        y.deliver(0);
        c.list(y);
    }
}
