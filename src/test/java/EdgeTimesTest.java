/** Times that are just reached or just not: each on its last tick and on the next. */
public final class EdgeTimesTest {
    public static void main(String[] args) {
        Check c = new Check("edges of times");
        clockDividedByFour(c);
        heardUntil(c);
        endsSoon(c);
        homeNeverEndsSoon(c);
        registrationUntil(c);
        registrationForEver(c);
        registrationUntilEarlier(c);
        registrationCountsFromTheRequest(c);
        openForThreeTicks(c);
        openWithOneThatIsNotHeard(c);
        bindingLasts(c);
        bindingOfOneTick(c);
        dataWhileTheBindingLasts(c);
        visitLasts(c);
        tunnelWhileTheVisitLasts(c);
        entryAnswers(c);
        entryTakesPlace(c);
        visitTakesPlace(c);
        fiveTicksAgo(c);
        fiveTicksAfterAnAck(c);
        orderOfOneTick(c);
        c.end();
    }

    private static RoamingNet withNobody(int life, int limit, int places) {
        RoamingNet x = new RoamingNet(life, limit, places);
        x.move(0, 4);
        x.move(1, 4);
        return x;
    }

    private static void ticks(RoamingNet x, int n) {
        for (int left = n; left > 0; left -= 20) {
            x.tick(left < 20 ? left : 20);
        }
    }

    private static void ask(RoamingNet x, int a, int m, int careOf, int lifetime, int id) {
        x.inject(a, m, careOf, lifetime, id, Check.requestSeal(0, m, careOf, lifetime, id));
    }

    private static void clockDividedByFour(Check c) {
        c.part("adverts if the clock can be divided by 4");
        RoamingNet x = new RoamingNet(20, 30, 2);
        x.move(0, 4);
        c.list(x);
        for (int clock = 1; clock <= 32; clock++) {
            x.tick(1);
            c.due("messages() at " + clock, x.messages(), clock / 4);
        }
    }

    private static void heardUntil(Check c) {
        c.part("what was heard until the clock or earlier is heard no more");
        // Asked first at 4, then again at 7, 10, 13, 16 and 19 while the advert of 4 + late is heard.
        int[] lates = {0, 1, 3, 4};
        int[] idsAt16 = {0, 5, 5, 5};
        int[] idsAt19 = {0, 0, 0, 6};
        for (int k = 0; k < lates.length; k++) {
            RoamingNet x = withNobody(20, 30, 2);
            x.move(0, 1);
            x.tick(4);
            x.duplicate(0);
            x.deliver(0);
            x.move(0, 4);
            ticks(x, lates[k]);
            x.move(0, 1);
            c.due("deliver(0)", x.deliver(0), true);
            x.move(0, 4);
            ticks(x, 11 - lates[k]);
            c.due("open(0) at 15, heard at " + (4 + lates[k]), x.open(0), 4);
            x.tick(1);
            c.due("open(0) at 16, heard at " + (4 + lates[k]), x.open(0), idsAt16[k]);
            x.tick(3);
            c.due("open(0) at 19, heard at " + (4 + lates[k]), x.open(0), idsAt19[k]);
        }
    }

    private static void endsSoon(Check c) {
        c.part("its time is not more than the clock + 4");
        int[] lives = {6, 7, 20, 60};
        for (int life : lives) {
            for (int left = 6; left >= 3; left--) {
                RoamingNet x = withNobody(life, 60, 2);
                x.move(0, 2);
                x.tick(4);
                x.duplicate(0);
                x.deliver(0);
                for (int k = 0; k < 4; k++) {
                    x.deliver(1);
                }
                x.move(0, 4);
                c.due("registered(0)", x.registered(0), 2);
                ticks(x, life - left);
                x.move(0, 2);
                c.due("deliver(0)", x.deliver(0), true);
                c.due("open(0), life " + life + ", " + left + " left", x.open(0), left <= 4 ? 2 : 0);
                c.due("registered(0)", x.registered(0), 2);
            }
        }
    }

    private static void homeNeverEndsSoon(Check c) {
        c.part("it ends soon if it is not with agent 0");
        RoamingNet x = new RoamingNet(6, 6, 2);
        for (int k = 0; k < 15; k++) {
            x.tick(4);
            Check.deliverFirst(x, 2);
            c.due("open(0)", x.open(0), 0);
            c.due("open(1)", x.open(1), 0);
            c.due("messages()", x.messages(), 0);
        }
    }

    private static void registrationUntil(Check c) {
        c.part("a registration until the clock is none any more");
        int[] lives = {6, 7, 20, 59, 60};
        for (int life : lives) {
            RoamingNet x = Check.registeredAt(3, life, 60, 2);
            x.move(0, 4);
            ticks(x, life - 1);
            c.due("registered(0), 1 tick before " + life, x.registered(0), 3);
            x.tick(1);
            c.due("registered(0) after " + life, x.registered(0), -1);
        }
        c.part("a registration that ends leaves the open request alone");
        RoamingNet y = Check.registeredAt(3, 6, 60, 2);
        y.tick(4);
        y.deliver(0);
        y.tick(1);
        c.due("registered(0) at 9", y.registered(0), 3);
        c.due("open(0) at 9", y.open(0), 2);
        y.tick(1);
        c.due("registered(0) at 10", y.registered(0), -1);
        c.due("open(0) at 10", y.open(0), 2);
        Check.deliverFirst(y, 4);
        c.due("registered(0), granted anew", y.registered(0), 3);
    }

    private static void registrationForEver(Check c) {
        c.part("at first with agent 0, for ever");
        RoamingNet x = withNobody(6, 6, 1);
        for (int k = 0; k < 200; k++) {
            x.tick(20);
        }
        c.due("registered(0) at 4000", x.registered(0), 0);
        c.due("registered(1) at 4000", x.registered(1), 0);
        c.part("with the care-of 0, for ever");
        RoamingNet y = Check.registeredAt(1, 6, 6, 1);
        y.move(0, 0);
        y.tick(4);
        Check.deliverAll(y);
        y.move(0, 4);
        for (int k = 0; k < 200; k++) {
            y.tick(20);
        }
        c.due("registered(0) at 4008", y.registered(0), 0);
    }

    /** A reply of a short lifetime may come when its time is over: the next tick ends the registration. */
    private static void registrationUntilEarlier(Check c) {
        c.part("a registration until earlier than the clock is none any more");
        for (int late = 0; late <= 2; late++) {
            RoamingNet x = Check.askingAt(1, 20, 30, 2);
            x.drop(0);
            ask(x, 1, 0, 1, 1, 1);
            Check.deliverFirst(x, 2);
            x.move(0, 4);
            ticks(x, late);
            x.move(0, 1);
            Check.deliverFirst(x, 2);
            c.due("registered(0), " + late + " late", x.registered(0), 1);
            c.due("open(0)", x.open(0), 0);
            x.move(0, 4);
            x.tick(1);
            c.due("registered(0), a tick later", x.registered(0), -1);
        }
    }

    private static void registrationCountsFromTheRequest(Check c) {
        c.part("until the time when that request was sent + the lifetime");
        for (int late = 0; late <= 2; late++) {
            RoamingNet x = Check.askingAt(1, 9, 30, 2);
            ticks(x, late);
            Check.deliverFirst(x, 4);
            x.move(0, 4);
            c.due("registered(0)", x.registered(0), 1);
            ticks(x, 8 - late);
            c.due("registered(0) at 12", x.registered(0), 1);
            c.due("binding(0) at 12", x.binding(0), 101 + late);
            c.due("visit(1, 0) at 12", x.visit(1, 0), 1 + late);
            x.tick(1);
            c.due("registered(0) at 13", x.registered(0), -1);
            c.due("binding(0) at 13", x.binding(0), late == 0 ? 0 : 100 + late);
        }
    }

    private static void openForThreeTicks(Check c) {
        c.part("if a request has been open for 3 ticks or more");
        RoamingNet x = Check.askingAt(2, 20, 30, 2);
        x.move(0, 4);
        x.drop(0);
        for (int clock = 5; clock <= 15; clock++) {
            x.tick(1);
            int asked = (clock - 4) / 3;
            c.due("open(0) at " + clock, x.open(0), 1 + asked);
            c.due("messages() at " + clock, x.messages(), asked);
        }
        x.tick(1);
        c.due("open(0) at 16, heard no more", x.open(0), 0);
        c.list(x, 2200002, 2200003, 2200004);
    }

    private static void openWithOneThatIsNotHeard(Check c) {
        c.part("else the request is open no more");
        RoamingNet x = withNobody(20, 30, 2);
        x.move(0, 2);
        x.tick(4);
        x.move(0, 0);
        x.tick(4);
        c.list(x, 1500002, 1500000);
        x.move(0, 2);
        x.deliver(0);
        c.list(x, 1500000, 2200001);
        x.move(0, 0);
        // Agent 0, with which it is registered, is the one that it has heard now.
        x.deliver(0);
        x.tick(2);
        c.due("open(0), 2 ticks", x.open(0), 1);
        x.tick(1);
        c.due("open(0), 3 ticks", x.open(0), 0);
        c.list(x, 2200001);
        for (int with = 1; with < 4; with++) {
            for (int a = 0; a < 4; a++) {
                if (a != with) {
                    openWithOneHeardEarlier(c, with, a);
                }
            }
        }
    }

    /** It asks a, and then hears again the agent with which it is registered: a is not asked anew. */
    private static void openWithOneHeardEarlier(Check c, int with, int a) {
        RoamingNet x = Check.registeredAt(with, 60, 60, 2);
        x.tick(4);
        x.move(0, a);
        x.tick(4);
        x.deliver(1);
        int request = 2000002 + 100000 * a;
        c.list(x, 1500000 + with, request);
        x.move(0, with);
        x.deliver(0);
        c.list(x, request);
        x.tick(2);
        c.due("open(0), asked " + a + ", heard " + with + ", 2 ticks", x.open(0), 2);
        x.tick(1);
        c.due("open(0), asked " + a + ", heard " + with + ", 3 ticks", x.open(0), 0);
        c.list(x, request);
    }

    private static void bindingLasts(Check c) {
        c.part("binding: how many ticks it still lasts; 0 if there is none");
        RoamingNet x = withNobody(20, 60, 2);
        ask(x, 0, 1, 3, 60, 1);
        x.deliver(0);
        for (int left = 60; left >= -3; left--) {
            c.due("binding(1), " + left + " left", x.binding(1), left > 0 ? 300 + left : 0);
            x.tick(1);
        }
    }

    private static void bindingOfOneTick(Check c) {
        c.part("a binding of 1 tick, and lifetime 0 that ends one");
        RoamingNet x = withNobody(20, 30, 2);
        ask(x, 0, 0, 2, 1, 1);
        x.deliver(0);
        c.due("binding(0)", x.binding(0), 201);
        x.tick(1);
        c.due("binding(0), a tick later", x.binding(0), 0);
        ask(x, 0, 0, 2, 9, 2);
        x.deliver(1);
        c.due("binding(0)", x.binding(0), 209);
        ask(x, 0, 0, 0, 0, 3);
        x.deliver(2);
        c.due("binding(0) after lifetime 0", x.binding(0), 0);
        x.say(0);
        x.deliver(3);
        c.due("message(3)", x.message(3), 4500001);
    }

    private static void dataWhileTheBindingLasts(Check c) {
        c.part("data at home while the clock is less than the binding's time");
        for (int late = 0; late <= 11; late++) {
            RoamingNet x = withNobody(20, 30, 2);
            ask(x, 0, 0, 1, 10, 1);
            x.deliver(0);
            x.drop(0);
            ticks(x, late);
            x.say(0);
            x.deliver(0);
            c.list(x, late < 10 ? 5100001 : 4500001);
        }
    }

    private static void visitLasts(Check c) {
        c.part("visit: how many ticks it still lasts; 0 if there is none");
        RoamingNet x = withNobody(20, 60, 2);
        ask(x, 3, 1, 3, 60, 1);
        Check.deliverFirst(x, 2);
        x.tick(2);
        x.deliver(0);
        for (int left = 60; left >= -3; left--) {
            c.due("visit(3, 1), " + left + " left", x.visit(3, 1), left > 0 ? left : 0);
            x.tick(1);
        }
    }

    private static void tunnelWhileTheVisitLasts(Check c) {
        c.part("a tunnel while the clock is less than the visit's time");
        for (int late = 0; late <= 11; late++) {
            RoamingNet x = withNobody(20, 30, 2);
            x.say(0);
            ask(x, 2, 0, 2, 10, 1);
            x.deliver(1);
            x.deliver(1);
            x.deliver(0);
            c.list(x, 3200001, 5200001);
            x.deliver(0);
            x.drop(1);
            c.list(x, 5200001);
            for (int k = 0; k < late; k++) {
                x.tick(1);
            }
            for (int k = x.messages(); k > 1; k--) {
                x.drop(1);
            }
            x.deliver(0);
            c.due("messages(), " + late + " late", x.messages(), late < 10 ? 1 : 0);
            c.due("message(0), " + late + " late", x.message(0), late < 10 ? 4500001 : -1);
        }
    }

    private static void entryAnswers(Check c) {
        c.part("an entry until the clock + 8: a reply");
        for (int late = 6; late <= 9; late++) {
            RoamingNet x = withNobody(20, 30, 2);
            ask(x, 2, 1, 2, 12, 1);
            Check.deliverFirst(x, 2);
            c.list(x, 3210001);
            ticks(x, late);
            x.deliver(0);
            c.due("messages(), " + late + " late", x.messages(), late < 8 ? 1 : 0);
            c.due("message(0), " + late + " late", x.message(0), late < 8 ? 3510001 : -1);
            c.due("visit(2, 1), " + late + " late", x.visit(2, 1), late < 8 ? 12 : 0);
        }
    }

    private static void entryTakesPlace(Check c) {
        c.part("an entry until the clock + 8: a place");
        for (int late = 6; late <= 9; late++) {
            RoamingNet x = withNobody(20, 30, 1);
            ask(x, 2, 1, 2, 12, 1);
            x.deliver(0);
            x.drop(0);
            ticks(x, late);
            ask(x, 2, 0, 2, 12, 1);
            x.deliver(0);
            c.list(x, late < 8 ? 3500001 : 2000001);
        }
    }

    private static void visitTakesPlace(Check c) {
        c.part("a visit takes place, the clock being less than its time");
        for (int late = 10; late <= 13; late++) {
            RoamingNet x = withNobody(20, 30, 1);
            ask(x, 2, 1, 2, 12, 1);
            Check.deliverFirst(x, 3);
            x.drop(0);
            ticks(x, late);
            ask(x, 2, 0, 2, 12, 1);
            x.deliver(0);
            c.list(x, late < 12 ? 3500001 : 2000001);
        }
    }

    private static void fiveTicksAgo(Check c) {
        c.part("last is 5 ticks ago or more");
        for (int start = 0; start < 5; start++) {
            RoamingNet x = withNobody(20, 30, 2);
            ticks(x, start);
            x.say(1);
            x.say(1);
            for (int late = 1; late <= 16; late++) {
                x.tick(1);
                c.due("messages(), " + late + " later", x.messages(), 2 + 2 * (late / 5));
            }
            c.due("message(2)", x.message(2), 4010001);
            c.due("message(3)", x.message(3), 4010002);
        }
        c.part("data with the numbers ACKED + 1 .. SENT again, in order");
        for (int said = 1; said <= 5; said++) {
            RoamingNet x = withNobody(20, 30, 2);
            for (int k = 0; k < said; k++) {
                x.say(0);
            }
            Check.dropAll(x);
            x.tick(5);
            int sent = said < 3 ? said : 3;
            c.due("messages(), " + said + " said", x.messages(), sent);
            for (int i = 0; i < sent; i++) {
                c.due("message(" + i + "), " + said + " said", x.message(i), 4000001 + i);
            }
            c.due("count(1, 0), " + said + " said", x.count(1, 0), sent);
        }
    }

    private static void fiveTicksAfterAnAck(Check c) {
        c.part("an ack: last is the clock");
        for (int when = 0; when <= 4; when++) {
            RoamingNet x = new RoamingNet(20, 30, 2);
            x.say(0);
            x.say(0);
            x.deliver(0);
            x.deliver(1);
            c.list(x, 4000002, 6400001);
            x.move(0, 4);
            x.move(1, 4);
            ticks(x, when);
            x.deliver(1);
            c.due("count(2, 0)", x.count(2, 0), 1);
            x.tick(4);
            c.list(x, 4000002);
            x.tick(1);
            c.list(x, 4000002, 4000002);
        }
        c.part("if more were sent than are acked");
        RoamingNet y = new RoamingNet(20, 30, 2);
        y.say(0);
        Check.deliverFirst(y, 3);
        y.move(0, 4);
        y.move(1, 4);
        ticks(y, 60);
        c.list(y);
        y.say(0);
        // Last is the clock then, however long ago the ack was.
        y.tick(4);
        c.list(y, 4000002);
        y.tick(1);
        c.list(y, 4000002, 4000002);
    }

    private static void orderOfOneTick(Check c) {
        c.part("a tick: adverts, then what mobiles do, then data");
        RoamingNet x = withNobody(20, 30, 2);
        x.move(0, 3);
        x.move(1, 1);
        x.tick(4);
        x.tick(1);
        x.deliver(1);
        x.deliver(0);
        Check.dropAll(x);
        x.tick(2);
        c.list(x);
        x.tick(1);
        c.list(x, 1510001, 1500003, 2300002, 2110002);
        c.part("all three in one tick, each for mobiles 0, 1");
        RoamingNet w = withNobody(20, 30, 2);
        w.move(0, 3);
        w.move(1, 1);
        w.tick(3);
        w.say(1);
        w.say(0);
        Check.dropAll(w);
        w.tick(2);
        w.deliver(1);
        w.deliver(0);
        Check.dropAll(w);
        w.tick(2);
        c.list(w);
        w.tick(1);
        c.list(w, 1510001, 1500003, 2300002, 2110002, 4000001, 4010001);
        c.part("a registration that ends as its advert is sent");
        RoamingNet y = Check.registeredAt(1, 8, 30, 2);
        y.tick(7);
        Check.dropAll(y);
        c.due("registered(0) at 11", y.registered(0), 1);
        y.tick(1);
        c.due("registered(0) at 12", y.registered(0), -1);
        c.list(y, 1500001);
    }
}
