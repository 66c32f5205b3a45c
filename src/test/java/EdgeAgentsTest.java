/** What the home agent and the foreign agents just take or just refuse: IDs, lifetimes, care-ofs and places. */
public final class EdgeAgentsTest {
    public static void main(String[] args) {
        Check c = new Check("edges at the agents");
        firstId(c);
        idOfTheLastAccepted(c);
        highestId(c);
        badSealIsNotAccepted(c);
        badSealBeforeOldId(c);
        smallerOfLifetimeAndLimit(c);
        lifetimeZero(c);
        replyToWhom(c);
        otherCareOf(c);
        onePlace(c);
        twoPlaces(c);
        oneMobileTakesOnePlace(c);
        deniedChangesNothing(c);
        entryOfTheNewestId(c);
        entryGoes(c);
        replyWithNoEntry(c);
        refusedReplyMakesNoVisit(c);
        visitOfAnotherLifetime(c);
        noVisitNoTunnel(c);
        c.end();
    }

    private static RoamingNet withNobody(int places) {
        RoamingNet x = new RoamingNet(20, 30, places);
        x.move(0, 4);
        x.move(1, 4);
        return x;
    }

    private static void inject(RoamingNet x, int a, int m, int careOf, int lifetime, int id) {
        x.inject(a, m, careOf, lifetime, id, Check.requestSeal(0, m, careOf, lifetime, id));
    }

    /** A well sealed request reaches the home agent, and its reply is lost. */
    private static void ask(RoamingNet x, int m, int careOf, int lifetime, int id) {
        inject(x, 0, m, careOf, lifetime, id);
        x.deliver(x.messages() - 1);
        x.drop(x.messages() - 1);
    }

    private static void firstId(Check c) {
        c.part("the last ID that it accepted (0 at first)");
        for (int m = 0; m < 2; m++) {
            RoamingNet x = withNobody(2);
            ask(x, m, 1, 9, 1);
            c.due("binding with ID 1", x.binding(m), 109);
            ask(x, m, 2, 9, 1);
            c.due("binding with ID 1 again", x.binding(m), 109);
            ask(x, 1 - m, 3, 9, 1);
            c.due("binding of the other with ID 1", x.binding(1 - m), 309);
        }
    }

    private static void idOfTheLastAccepted(Check c) {
        c.part("if the ID is not more than the last one accepted");
        int[] ids = {1, 499, 500, 501, 502, 9999};
        for (int id : ids) {
            RoamingNet x = withNobody(2);
            ask(x, 0, 1, 9, 500);
            ask(x, 0, 2, 9, id);
            c.due("binding(0) with " + id + " after 500", x.binding(0), id > 500 ? 209 : 109);
            ask(x, 0, 0, 0, id + 1 <= 9999 ? id + 1 : 9999);
            boolean ended = id >= 500 && id < 9999;
            c.due("binding(0) ended after " + id, x.binding(0), ended ? 0 : id > 500 ? 209 : 109);
        }
    }

    private static void highestId(Check c) {
        c.part("ID 9999 is the last that can be injected");
        RoamingNet x = withNobody(2);
        ask(x, 1, 1, 9, 9998);
        c.due("binding(1) with 9998", x.binding(1), 109);
        ask(x, 1, 2, 9, 9999);
        c.due("binding(1) with 9999", x.binding(1), 209);
        ask(x, 1, 3, 9, 9999);
        c.due("binding(1) with 9999 again", x.binding(1), 209);
        x.move(1, 1);
        x.tick(4);
        Check.deliverAll(x);
        // The mobile's own ID 1 is old now: the reply closes its request and registers nothing.
        c.due("binding(1)", x.binding(1), 205);
        c.due("registered(1)", x.registered(1), 0);
        c.due("open(1)", x.open(1), 0);
    }

    private static void badSealIsNotAccepted(Check c) {
        c.part("with code 131 the ID is not accepted");
        RoamingNet x = withNobody(2);
        x.inject(0, 0, 1, 9, 9999, 1);
        x.deliver(0);
        c.list(x, 3109999);
        c.due("binding(0)", x.binding(0), 0);
        ask(x, 0, 1, 9, 1);
        c.due("binding(0) with ID 1", x.binding(0), 109);
    }

    private static void badSealBeforeOldId(Check c) {
        c.part("a bad seal leaves the binding, with any ID");
        for (int id = 4; id <= 6; id++) {
            RoamingNet x = withNobody(2);
            ask(x, 0, 1, 9, 5);
            x.inject(0, 0, 0, 0, id, 1);
            x.deliver(0);
            c.due("binding(0)", x.binding(0), 109);
            c.list(x, 3500000 + id);
            ask(x, 0, 2, 9, 6);
            c.due("binding(0) with ID 6", x.binding(0), 209);
        }
    }

    private static void smallerOfLifetimeAndLimit(Check c) {
        c.part("the smaller of the request's lifetime and LIMIT");
        int[] limits = {6, 7, 30, 59, 60};
        for (int limit : limits) {
            for (int lifetime = limit - 1; lifetime <= limit + 1 && lifetime <= 60; lifetime++) {
                RoamingNet x = new RoamingNet(20, limit, 2);
                inject(x, 2, 0, 2, lifetime, 1);
                Check.deliverFirst(x, 3);
                int granted = lifetime < limit ? lifetime : limit;
                c.due("binding(0) for " + lifetime + " of " + limit, x.binding(0), 200 + granted);
                c.due("visit(2, 0) for " + lifetime + " of " + limit, x.visit(2, 0), granted);
            }
        }
    }

    private static void lifetimeZero(Check c) {
        c.part("with lifetime 0 there is no binding any more");
        RoamingNet x = withNobody(2);
        ask(x, 0, 0, 0, 1);
        c.due("binding(0) where there was none", x.binding(0), 0);
        ask(x, 0, 3, 1, 2);
        c.due("binding(0) with lifetime 1", x.binding(0), 301);
        ask(x, 1, 3, 9, 1);
        ask(x, 0, 0, 0, 3);
        c.due("binding(0) with lifetime 0", x.binding(0), 0);
        c.due("binding(1)", x.binding(1), 309);
        // The ID of an end counts as accepted too.
        ask(x, 0, 3, 9, 3);
        c.due("binding(0) with ID 3 again", x.binding(0), 0);
        ask(x, 0, 3, 9, 4);
        c.due("binding(0) with ID 4", x.binding(0), 309);
    }

    private static void replyToWhom(Check c) {
        c.part("to the mobile if the care-of is 0, else to the agent that is the care-of");
        for (int m = 0; m < 2; m++) {
            for (int careOf = 0; careOf < 4; careOf++) {
                RoamingNet x = withNobody(2);
                inject(x, 0, m, careOf, careOf == 0 ? 0 : 9, 8);
                x.deliver(0);
                int target = careOf == 0 ? 5 : careOf;
                c.list(x, 3000008 + 100000 * target + 10000 * m);
            }
        }
    }

    private static void otherCareOf(Check c) {
        c.part("if the care-of is not a, nothing");
        for (int a = 1; a < 4; a++) {
            for (int careOf = 0; careOf < 4; careOf++) {
                RoamingNet x = withNobody(1);
                inject(x, a, 0, careOf, careOf == 0 ? 0 : 9, 8);
                x.deliver(0);
                c.due("messages()", x.messages(), careOf == a ? 1 : 0);
                c.due("message(0)", x.message(0), careOf == a ? 2000008 : -1);
                // Nothing: no place is taken either.
                Check.dropAll(x);
                inject(x, a, 1, a, 9, 8);
                x.deliver(0);
                c.list(x, careOf == a ? 3510008 : 2010008);
            }
        }
    }

    private static void onePlace(Check c) {
        c.part("the mobile takes no place there, and 1 mobile does");
        for (int m = 0; m < 2; m++) {
            RoamingNet x = withNobody(1);
            int own = 10000 * m;
            int others = 10000 - own;
            inject(x, 1, m, 1, 9, 1);
            x.deliver(0);
            c.list(x, 2000001 + own);
            inject(x, 1, 1 - m, 1, 9, 1);
            x.deliver(1);
            c.list(x, 2000001 + own, 3500001 + others);
            x.drop(1);
            inject(x, 1, m, 1, 9, 2);
            x.deliver(1);
            c.list(x, 2000001 + own, 2000002 + own);
            inject(x, 2, 1 - m, 2, 9, 1);
            x.deliver(2);
            // Another agent has places of its own.
            c.list(x, 2000001 + own, 2000002 + own, 2000001 + others);
        }
    }

    private static void twoPlaces(Check c) {
        c.part("two places are for both mobiles, again and again");
        RoamingNet x = withNobody(2);
        for (int id = 1; id <= 3; id++) {
            for (int m = 0; m < 2; m++) {
                inject(x, 3, m, 3, 9, id);
                x.deliver(0);
                c.list(x, 2000000 + 10000 * m + id);
                Check.deliverFirst(x, 2);
                c.due("visit(3, m)", x.visit(3, m), 9);
                x.drop(0);
            }
        }
    }

    private static void oneMobileTakesOnePlace(Check c) {
        c.part("a mobile with a visit and an entry takes one place");
        RoamingNet x = withNobody(2);
        inject(x, 3, 0, 3, 9, 1);
        Check.deliverFirst(x, 3);
        x.drop(0);
        inject(x, 3, 0, 3, 9, 2);
        x.deliver(0);
        x.drop(0);
        inject(x, 3, 1, 3, 9, 1);
        x.deliver(0);
        c.list(x, 2010001);
    }

    private static void deniedChangesNothing(Check c) {
        c.part("one that is denied takes no place and gets no visit");
        RoamingNet x = withNobody(1);
        inject(x, 1, 0, 1, 3, 1);
        Check.deliverFirst(x, 3);
        x.drop(0);
        inject(x, 1, 1, 1, 9, 1);
        x.deliver(0);
        c.list(x, 3510001);
        x.drop(0);
        inject(x, 0, 1, 1, 9, 1);
        x.deliver(0);
        c.list(x, 3110001);
        x.deliver(0);
        // The reply finds no entry.
        c.list(x);
        c.due("visit(1, 1)", x.visit(1, 1), 0);
        x.tick(3);
        c.due("visit(1, 0)", x.visit(1, 0), 0);
        inject(x, 1, 0, 1, 3, 2);
        x.deliver(0);
        c.list(x, 2000002);
    }

    private static void entryOfTheNewestId(Check c) {
        c.part("if the mobile's entry has this ID");
        for (int id = 4; id <= 6; id++) {
            RoamingNet x = withNobody(2);
            inject(x, 2, 0, 2, 9, 5);
            x.deliver(0);
            x.drop(0);
            inject(x, 0, 0, 2, 9, id);
            x.deliver(0);
            c.list(x, 3200000 + id);
            x.deliver(0);
            c.due("messages() with " + id, x.messages(), id == 5 ? 1 : 0);
            c.due("visit(2, 0) with " + id, x.visit(2, 0), id == 5 ? 9 : 0);
        }
        c.part("its entry has this ID, until the clock + 8, instead of an earlier one");
        RoamingNet y = withNobody(1);
        inject(y, 2, 0, 2, 9, 1);
        y.deliver(0);
        y.drop(0);
        y.tick(7);
        inject(y, 2, 0, 2, 9, 2);
        Check.deliverFirst(y, 2);
        y.tick(7);
        y.deliver(0);
        c.due("visit(2, 0), 7 after the second", y.visit(2, 0), 9);
    }

    private static void entryGoes(Check c) {
        c.part("the entry goes");
        RoamingNet x = withNobody(1);
        inject(x, 2, 0, 2, 2, 1);
        Check.deliverFirst(x, 2);
        x.duplicate(0);
        x.deliver(0);
        c.list(x, 3200001, 3500001);
        x.tick(1);
        x.deliver(0);
        c.list(x, 3500001);
        c.due("visit(2, 0) after the second reply", x.visit(2, 0), 1);
        x.drop(0);
        x.tick(1);
        // Its visit is over and its entry gone, so the place is free.
        inject(x, 2, 1, 2, 9, 1);
        x.deliver(0);
        c.list(x, 2010001);
    }

    private static void replyWithNoEntry(Check c) {
        c.part("a reply where no entry is");
        for (int a = 1; a < 4; a++) {
            RoamingNet x = withNobody(2);
            inject(x, 0, 0, a, 9, 1);
            Check.deliverFirst(x, 2);
            c.list(x);
            c.due("visit(a, 0)", x.visit(a, 0), 0);
            c.due("binding(0)", x.binding(0), 100 * a + 9);
        }
        c.part("a reply where the other mobile's entry is");
        RoamingNet y = withNobody(2);
        inject(y, 1, 1, 1, 9, 1);
        y.deliver(0);
        y.drop(0);
        inject(y, 0, 0, 1, 9, 1);
        Check.deliverFirst(y, 2);
        c.list(y);
        c.due("visit(1, 0)", y.visit(1, 0), 0);
        c.due("visit(1, 1)", y.visit(1, 1), 0);
    }

    private static void refusedReplyMakesNoVisit(Check c) {
        c.part("with code 0 there is a visit; with others the entry goes all the same");
        RoamingNet x = withNobody(1);
        x.inject(1, 0, 1, 9, 1, 1);
        Check.deliverFirst(x, 3);
        c.list(x, 3500001);
        c.due("visit(1, 0)", x.visit(1, 0), 0);
        x.drop(0);
        inject(x, 1, 1, 1, 9, 1);
        x.deliver(0);
        c.list(x, 2010001);
        c.part("a visit that is there lasts on with code 133");
        RoamingNet y = withNobody(1);
        inject(y, 1, 0, 1, 9, 1);
        y.duplicate(0);
        y.deliver(0);
        y.deliver(1);
        y.deliver(1);
        c.due("visit(1, 0)", y.visit(1, 0), 9);
        y.tick(1);
        y.deliver(0);
        y.deliver(1);
        y.deliver(1);
        c.due("messages()", y.messages(), 2);
        c.due("visit(1, 0) after code 133", y.visit(1, 0), 8);
        c.due("binding(0)", y.binding(0), 108);
    }

    private static void visitOfAnotherLifetime(Check c) {
        c.part("a visit until the clock + the reply's lifetime, longer or shorter than before");
        int[] lifetimes = {1, 8, 9, 10, 30, 31};
        for (int lifetime : lifetimes) {
            RoamingNet x = withNobody(2);
            inject(x, 1, 0, 1, 9, 1);
            Check.deliverFirst(x, 3);
            x.drop(0);
            inject(x, 1, 0, 1, lifetime, 2);
            Check.deliverFirst(x, 3);
            int granted = lifetime < 30 ? lifetime : 30;
            c.due("visit(1, 0)", x.visit(1, 0), granted);
            c.due("binding(0)", x.binding(0), 100 + granted);
        }
    }

    private static void noVisitNoTunnel(Check c) {
        c.part("a tunnel to where no visit is, only an entry or the other mobile's visit");
        RoamingNet x = withNobody(2);
        inject(x, 1, 1, 1, 9, 1);
        Check.deliverFirst(x, 3);
        x.drop(0);
        ask(x, 0, 1, 9, 1);
        inject(x, 1, 0, 1, 9, 2);
        x.deliver(0);
        x.drop(0);
        x.say(0);
        x.deliver(0);
        c.list(x, 5100001);
        x.deliver(0);
        c.list(x);
    }
}
