/** "It is lost if the mobile is not in that network when it arrives": each kind that is sent to a mobile, in each place. */
public final class EdgeNetworkTest {
    public static void main(String[] args) {
        Check c = new Check("edges of the networks");
        advert(c);
        replyThroughAnAgent(c);
        replyOfHome(c);
        denial(c);
        dataAtHome(c);
        dataThroughAnAgent(c);
        whenItArrivesNotWhenItIsSent(c);
        duplicateKeepsTheNetwork(c);
        theOtherMobile(c);
        toAgentsAndCorrespondent(c);
        whoIsAdvertisedTo(c);
        c.end();
    }

    private static void advert(Check c) {
        for (int a = 1; a < 4; a++) {
            for (int place = 0; place <= 4; place++) {
                c.part("advert of " + a + " arrives, mobile in " + place);
                RoamingNet x = new RoamingNet(20, 30, 2);
                x.move(0, a);
                x.move(1, 4);
                x.tick(4);
                x.move(0, place);
                c.due("deliver(0)", x.deliver(0), true);
                c.due("open(0)", x.open(0), place == a ? 1 : 0);
                c.due("messages()", x.messages(), place == a ? 1 : 0);
            }
        }
    }

    private static void replyThroughAnAgent(Check c) {
        for (int a = 1; a < 4; a++) {
            for (int place = 0; place <= 4; place++) {
                c.part("reply in network " + a + ", mobile in " + place);
                RoamingNet x = Check.askingAt(a, 20, 30, 2);
                Check.deliverFirst(x, 3);
                c.list(x, 3500001);
                x.move(0, place);
                c.due("deliver(0)", x.deliver(0), true);
                c.due("registered(0)", x.registered(0), place == a ? a : 0);
                c.due("open(0)", x.open(0), place == a ? 0 : 1);
                c.list(x);
            }
        }
    }

    private static void replyOfHome(Check c) {
        for (int place = 0; place <= 4; place++) {
            c.part("reply in network 0, mobile in " + place);
            RoamingNet x = Check.registeredAt(1, 20, 30, 2);
            x.move(0, 0);
            x.tick(4);
            Check.deliverFirst(x, 2);
            c.list(x, 3500002);
            x.move(0, place);
            c.due("deliver(0)", x.deliver(0), true);
            c.due("registered(0)", x.registered(0), place == 0 ? 0 : 1);
            c.due("open(0)", x.open(0), place == 0 ? 0 : 2);
            c.list(x);
        }
    }

    private static void denial(Check c) {
        for (int place = 0; place <= 4; place++) {
            c.part("denial in network 2, mobile in " + place);
            RoamingNet x = new RoamingNet(20, 30, 1);
            x.inject(2, 1, 2, 9, 1, 0);
            x.deliver(0);
            x.drop(0);
            x.move(0, 2);
            x.move(1, 4);
            x.tick(4);
            Check.deliverFirst(x, 2);
            c.list(x, 3500001);
            x.move(0, place);
            c.due("deliver(0)", x.deliver(0), true);
            c.due("open(0)", x.open(0), place == 2 ? 0 : 1);
            c.due("registered(0)", x.registered(0), 0);
            c.list(x);
        }
    }

    private static void dataAtHome(Check c) {
        for (int place = 0; place <= 4; place++) {
            c.part("data in network 0, mobile in " + place);
            RoamingNet x = new RoamingNet(20, 30, 2);
            x.say(1);
            x.deliver(0);
            c.list(x, 4510001);
            x.move(1, place);
            c.due("deliver(0)", x.deliver(0), true);
            c.due("count(0, 1)", x.count(0, 1), place == 0 ? 1 : 0);
            // No ack either, when it is lost.
            c.due("messages()", x.messages(), place == 0 ? 1 : 0);
            c.due("message(0)", x.message(0), place == 0 ? 6410001 : -1);
        }
    }

    private static void dataThroughAnAgent(Check c) {
        for (int a = 1; a < 4; a++) {
            for (int place = 0; place <= 4; place++) {
                c.part("data in network " + a + ", mobile in " + place);
                RoamingNet x = Check.registeredAt(a, 20, 30, 2);
                x.say(0);
                Check.deliverFirst(x, 2);
                c.list(x, 4500001);
                x.move(0, place);
                c.due("deliver(0)", x.deliver(0), true);
                c.due("count(0, 0)", x.count(0, 0), place == a ? 1 : 0);
                c.due("message(0)", x.message(0), place == a ? 6400001 : -1);
            }
        }
    }

    private static void whenItArrivesNotWhenItIsSent(Check c) {
        c.part("away when it was sent, there when it arrives");
        RoamingNet x = new RoamingNet(20, 30, 2);
        x.move(0, 4);
        x.say(0);
        x.deliver(0);
        c.list(x, 4500001);
        x.move(0, 0);
        x.deliver(0);
        c.due("count(0, 0)", x.count(0, 0), 1);
        c.part("there when it was sent, away, and back again");
        RoamingNet y = new RoamingNet(20, 30, 2);
        y.say(0);
        y.deliver(0);
        y.move(0, 3);
        y.tick(1);
        y.move(0, 0);
        y.deliver(0);
        c.due("count(0, 0)", y.count(0, 0), 1);
    }

    private static void duplicateKeepsTheNetwork(Check c) {
        for (int place = 0; place <= 4; place++) {
            c.part("one more message like i, made with the mobile in " + place);
            RoamingNet x = new RoamingNet(20, 30, 2);
            x.move(0, 2);
            x.move(1, 4);
            x.tick(4);
            x.move(0, place);
            x.duplicate(0);
            x.drop(0);
            x.deliver(0);
            c.due("open(0)", x.open(0), place == 2 ? 1 : 0);
        }
    }

    private static void theOtherMobile(Check c) {
        c.part("the other mobile being there is no help");
        RoamingNet x = new RoamingNet(20, 30, 2);
        x.move(0, 2);
        x.move(1, 4);
        x.tick(4);
        x.move(0, 4);
        x.move(1, 2);
        x.deliver(0);
        c.due("open(0)", x.open(0), 0);
        c.due("open(1)", x.open(1), 0);
        c.list(x);
    }

    private static void toAgentsAndCorrespondent(Check c) {
        c.part("what goes to no mobile arrives wherever the mobile is");
        RoamingNet x = Check.askingAt(3, 20, 30, 2);
        x.move(0, 4);
        int[] kinds = {2000001, 3300001, 3500001};
        for (int next : kinds) {
            c.due("deliver(0)", x.deliver(0), true);
            c.list(x, next);
        }
        x.drop(0);
        c.due("binding(0)", x.binding(0), 320);
        c.due("visit(3, 0)", x.visit(3, 0), 20);
        x.say(0);
        x.deliver(0);
        c.list(x, 5300001);
        x.deliver(0);
        c.list(x, 4500001);
        x.move(0, 3);
        x.deliver(0);
        x.move(0, 4);
        x.deliver(0);
        c.due("count(2, 0)", x.count(2, 0), 1);
    }

    private static void whoIsAdvertisedTo(Check c) {
        c.part("agents 0, 1, 2, 3, each to the mobiles 0, 1 in its network");
        for (int p = 0; p <= 4; p++) {
            for (int q = 0; q <= 4; q++) {
                RoamingNet x = new RoamingNet(20, 30, 2);
                x.move(0, p);
                x.move(1, q);
                x.tick(4);
                int first = 1500000 + p;
                int second = 1510000 + q;
                if (p == 4 && q == 4) {
                    c.list(x);
                } else if (q == 4) {
                    c.list(x, first);
                } else if (p == 4) {
                    c.list(x, second);
                } else if (p <= q) {
                    c.list(x, first, second);
                } else {
                    c.list(x, second, first);
                }
            }
        }
    }
}
