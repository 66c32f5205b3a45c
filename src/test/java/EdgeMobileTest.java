/** What a mobile and the correspondent just take or just leave: IDs, numbers, the window and what is asked already. */
public final class EdgeMobileTest {
    public static void main(String[] args) {
        Check c = new Check("edges at the mobile");
        idsGrowByOne(c);
        advertOfWhereItIsRegistered(c);
        advertWithARequestOpen(c);
        replyOfTheIdBesides(c);
        replyWithNoneOpen(c);
        denialNeedsNoSeal(c);
        denialOfTheIdBesides(c);
        refusalClosesTheRequest(c);
        badReplyLeavesItOpen(c);
        registeredWithTheCareOf(c);
        dataNumbers(c);
        ackInAnyCase(c);
        windowOfThree(c);
        sayThatSendsNothing(c);
        windowAndSaid(c);
        ackNumbers(c);
        lastOfAnOldAck(c);
        eachMobileItsOwn(c);
        c.end();
    }

    private static RoamingNet fresh() {
        return new RoamingNet(20, 30, 2);
    }

    private static void inject(RoamingNet x, int a, int m, int careOf, int lifetime, int id) {
        x.inject(a, m, careOf, lifetime, id, Check.requestSeal(0, m, careOf, lifetime, id));
    }

    private static void idsGrowByOne(Check c) {
        c.part("a last ID (0 at first) that grows by 1");
        RoamingNet x = fresh();
        x.move(1, 4);
        for (int id = 1; id <= 12; id++) {
            x.move(0, 1 + id % 3);
            x.tick(4);
            x.deliver(0);
            c.due("open(0)", x.open(0), id);
            c.list(x, 2000000 + 100000 * (1 + id % 3) + id);
            Check.deliverAll(x);
            c.due("registered(0)", x.registered(0), 1 + id % 3);
        }
        c.due("open(1)", x.open(1), 0);
        // An ID that was given up is not used again.
        x.move(0, 2);
        x.tick(4);
        x.deliver(0);
        c.due("open(0)", x.open(0), 13);
        x.move(0, 4);
        x.tick(12);
        c.due("open(0), given up", x.open(0), 0);
        Check.dropAll(x);
        x.move(0, 2);
        x.tick(4);
        x.deliver(0);
        c.due("open(0)", x.open(0), 17);
    }

    private static void advertOfWhereItIsRegistered(Check c) {
        c.part("if it is not registered with a");
        for (int with = 0; with < 4; with++) {
            for (int a = 0; a < 4; a++) {
                RoamingNet x = fresh();
                x.move(1, 4);
                x.move(0, with);
                x.tick(4);
                Check.deliverAll(x);
                c.due("registered(0)", x.registered(0), with);
                int before = with == 0 ? 0 : 1;
                x.move(0, a);
                x.tick(4);
                x.deliver(0);
                c.due("open(0) in " + a, x.open(0), a == with ? 0 : before + 1);
                c.due("messages() in " + a, x.messages(), a == with ? 0 : 1);
            }
        }
    }

    private static void advertWithARequestOpen(Check c) {
        c.part("and it has no open request with a");
        RoamingNet x = fresh();
        x.move(1, 4);
        x.move(0, 1);
        x.tick(4);
        x.duplicate(0);
        x.duplicate(0);
        x.deliver(0);
        x.drop(2);
        x.deliver(0);
        c.due("open(0), the same advert again", x.open(0), 1);
        c.list(x, 1500001);
        x.move(0, 2);
        x.tick(4);
        // The request was asked again at 7.
        c.due("open(0) at 8", x.open(0), 2);
        x.deliver(2);
        c.due("open(0), another's advert", x.open(0), 3);
        x.move(0, 1);
        x.deliver(0);
        c.due("open(0), the first one's advert", x.open(0), 4);
    }

    /** Mobile 0, in network 0 now, whose request 2 with agent 1 is open. */
    private static RoamingNet withTwoOpen() {
        RoamingNet x = Check.askingAt(1, 20, 30, 2);
        x.move(0, 0);
        x.tick(3);
        Check.dropAll(x);
        return x;
    }

    private static void replyOfTheIdBesides(Check c) {
        c.part("nothing if it has no open request with this ID");
        for (int id = 1; id <= 3; id++) {
            RoamingNet x = withTwoOpen();
            c.due("open(0)", x.open(0), 2);
            inject(x, 0, 0, 0, 0, id);
            Check.deliverFirst(x, 2);
            c.list(x);
            c.due("open(0) after a reply of " + id, x.open(0), id == 2 ? 0 : 2);
        }
    }

    private static void replyWithNoneOpen(Check c) {
        c.part("nothing if it has no open request");
        for (int id = 1; id <= 3; id++) {
            RoamingNet x = Check.registeredAt(1, 20, 30, 2);
            x.move(0, 0);
            inject(x, 0, 0, 0, 0, id);
            Check.deliverFirst(x, 2);
            c.list(x);
            c.due("registered(0) after a reply of " + id, x.registered(0), 1);
            c.due("open(0) after a reply of " + id, x.open(0), 0);
        }
    }

    /** Mobile 1 has the only place at agent 2, and mobile 0's request there is denied with the ID 1. */
    private static RoamingNet denied() {
        RoamingNet x = new RoamingNet(20, 30, 1);
        x.key(0, 0, 5);
        x.key(1, 0, 6);
        x.move(0, 2);
        x.move(1, 4);
        inject(x, 2, 1, 2, 30, 1);
        Check.deliverFirst(x, 3);
        x.drop(0);
        x.tick(4);
        Check.deliverFirst(x, 2);
        return x;
    }

    private static void denialNeedsNoSeal(Check c) {
        c.part("a denial: the request is open no more");
        RoamingNet x = denied();
        c.list(x, 3500001);
        c.due("open(0)", x.open(0), 1);
        x.deliver(0);
        c.due("open(0) after the denial", x.open(0), 0);
        c.due("registered(0)", x.registered(0), 0);
        x.tick(4);
        x.deliver(0);
        // With the next advert it asks again.
        c.due("open(0) after the next advert", x.open(0), 2);
    }

    private static void denialOfTheIdBesides(Check c) {
        c.part("a denial of another ID");
        for (int id = 1; id <= 3; id++) {
            RoamingNet x = denied();
            x.drop(0);
            x.tick(3);
            c.due("open(0)", x.open(0), 2);
            c.list(x, 2200002);
            x.drop(0);
            x.inject(2, 0, 2, 9, id, 0);
            Check.deliverFirst(x, 2);
            c.due("open(0) after the denial of " + id, x.open(0), id == 2 ? 0 : 2);
        }
    }

    private static void refusalClosesTheRequest(Check c) {
        c.part("a well sealed reply with another code: open no more, registered as before");
        RoamingNet x = Check.registeredAt(1, 20, 30, 2);
        inject(x, 0, 0, 1, 30, 2);
        x.deliver(0);
        x.drop(0);
        x.move(0, 2);
        x.tick(4);
        x.deliver(0);
        c.due("open(0)", x.open(0), 2);
        Check.deliverFirst(x, 3);
        c.list(x, 3500002);
        x.deliver(0);
        c.due("open(0)", x.open(0), 0);
        c.due("registered(0)", x.registered(0), 1);
        c.due("visit(2, 0)", x.visit(2, 0), 0);
        x.move(0, 4);
        x.tick(15);
        c.due("registered(0) at 23", x.registered(0), 1);
        x.tick(1);
        c.due("registered(0) at 24", x.registered(0), -1);
    }

    private static void badReplyLeavesItOpen(Check c) {
        c.part("if the seal is not the one due, nothing");
        for (int side = 0; side < 2; side++) {
            RoamingNet x = Check.askingAt(1, 20, 30, 2);
            x.deliver(0);
            if (side == 0) {
                x.key(0, 0, 1);
                x.deliver(0);
                x.deliver(0);
            } else {
                Check.deliverFirst(x, 2);
                x.key(1, 0, 1);
            }
            c.list(x, 3500001);
            x.deliver(0);
            c.due("open(0)", x.open(0), 1);
            c.due("registered(0)", x.registered(0), 0);
            x.tick(3);
            c.due("open(0), asked again", x.open(0), 2);
        }
    }

    private static void registeredWithTheCareOf(Check c) {
        c.part("it is registered with the care-of");
        for (int careOf = 1; careOf < 4; careOf++) {
            RoamingNet x = Check.askingAt(1, 20, 30, 2);
            x.drop(0);
            inject(x, careOf, 0, careOf, 7, 1);
            Check.deliverFirst(x, 3);
            x.move(0, careOf);
            x.deliver(0);
            c.due("registered(0)", x.registered(0), careOf);
            c.due("open(0)", x.open(0), 0);
        }
        c.part("for ever, if that is 0");
        RoamingNet y = Check.registeredAt(1, 6, 30, 2);
        y.move(0, 2);
        y.tick(4);
        y.deliver(0);
        y.drop(0);
        y.move(0, 0);
        inject(y, 0, 0, 0, 0, 2);
        Check.deliverFirst(y, 2);
        c.due("registered(0)", y.registered(0), 0);
        y.tick(20);
        c.due("registered(0) at 28", y.registered(0), 0);
    }

    /** Data 1, 2 and 3 for mobile 0 are on their way in network 0. */
    private static RoamingNet withThreeData() {
        RoamingNet x = fresh();
        for (int k = 0; k < 3; k++) {
            x.say(0);
        }
        Check.deliverFirst(x, 3);
        return x;
    }

    private static void dataNumbers(Check c) {
        c.part("if it is 1 more than what it has received");
        for (int first = 1; first <= 3; first++) {
            RoamingNet x = withThreeData();
            x.deliver(first - 1);
            c.due("count(0, 0), first " + first, x.count(0, 0), first == 1 ? 1 : 0);
            c.due("message(2), first " + first, x.message(2), first == 1 ? 6400001 : 6400000);
        }
        for (int next = 1; next <= 3; next++) {
            RoamingNet x = withThreeData();
            x.duplicate(0);
            x.deliver(0);
            x.deliver(next == 1 ? 2 : next - 2);
            c.due("count(0, 0), 1 and then " + next, x.count(0, 0), next == 2 ? 2 : 1);
            c.due("message(3), 1 and then " + next, x.message(3), next == 2 ? 6400002 : 6400001);
        }
    }

    private static void ackInAnyCase(Check c) {
        c.part("in any case an ack with the number received");
        RoamingNet x = withThreeData();
        x.duplicate(0);
        x.duplicate(2);
        c.list(x, 4500001, 4500002, 4500003, 4500001, 4500003);
        x.deliver(2);
        x.deliver(0);
        x.deliver(1);
        x.deliver(0);
        x.deliver(0);
        c.list(x, 6400000, 6400001, 6400001, 6400002, 6400003);
        c.due("count(0, 0)", x.count(0, 0), 3);
    }

    private static void windowOfThree(Check c) {
        c.part("fewer than ACKED + 3");
        RoamingNet x = fresh();
        for (int said = 1; said <= 6; said++) {
            c.due("say(0)", x.say(0), said);
            c.due("count(1, 0)", x.count(1, 0), said < 3 ? said : 3);
            c.due("messages()", x.messages(), said < 3 ? said : 3);
        }
        Check.deliverFirst(x, 6);
        c.list(x, 6400001, 6400002, 6400003);
        x.deliver(0);
        c.due("count(1, 0) after ack 1", x.count(1, 0), 4);
        c.list(x, 6400002, 6400003, 4000004);
        x.deliver(1);
        c.due("count(1, 0) after ack 3", x.count(1, 0), 6);
        c.list(x, 6400002, 4000004, 4000005, 4000006);
        x.deliver(0);
        c.due("count(2, 0) after ack 2", x.count(2, 0), 3);
        c.due("count(1, 0) after ack 2", x.count(1, 0), 6);
        c.due("say(0)", x.say(0), 7);
        c.due("count(1, 0), the window being full", x.count(1, 0), 6);
    }

    private static void sayThatSendsNothing(Check c) {
        c.part("as long as .. one more is sent ..; last is the clock then: not when none is sent");
        for (int said = 3; said <= 4; said++) {
            RoamingNet x = fresh();
            x.move(0, 4);
            x.move(1, 4);
            for (int k = 1; k < said; k++) {
                x.say(0);
            }
            x.tick(4);
            c.due("say(0)", x.say(0), said);
            Check.dropAll(x);
            x.tick(1);
            // The third was sent and puts last; the fourth was not.
            c.due("messages(), the last say being number " + said, x.messages(), said == 3 ? 0 : 3);
            x.tick(4);
            c.due("messages(), 4 ticks later", x.messages(), 3);
        }
    }

    private static void windowAndSaid(Check c) {
        c.part("fewer than SAID");
        for (int said = 3; said <= 7; said++) {
            RoamingNet x = fresh();
            for (int k = 0; k < said; k++) {
                x.say(1);
            }
            Check.deliverFirst(x, 6);
            x.deliver(2);
            c.due("count(2, 1)", x.count(2, 1), 3);
            c.due("count(1, 1) of " + said, x.count(1, 1), said < 6 ? said : 6);
            c.due("messages() of " + said, x.messages(), 2 + (said < 6 ? said : 6) - 3);
        }
    }

    private static void ackNumbers(Check c) {
        c.part("an ack with a number that is more than ACKED");
        RoamingNet x = withThreeData();
        x.duplicate(0);
        x.deliver(1);
        c.list(x, 4500001, 4500003, 4500001, 6400000);
        x.deliver(3);
        c.due("count(2, 0) after ack 0", x.count(2, 0), 0);
        x.deliver(0);
        x.deliver(1);
        c.list(x, 4500003, 6400001, 6400001);
        x.deliver(1);
        c.due("count(2, 0) after ack 1", x.count(2, 0), 1);
        x.deliver(1);
        c.due("count(2, 0) after ack 1 again", x.count(2, 0), 1);
        c.list(x, 4500003);
    }

    private static void lastOfAnOldAck(Check c) {
        c.part("an ack that is not more than ACKED leaves last alone");
        for (int old = 0; old <= 1; old++) {
            RoamingNet x = fresh();
            x.say(0);
            x.say(0);
            Check.deliverFirst(x, 2);
            x.deliver(1);
            x.duplicate(0);
            x.deliver(0);
            x.deliver(1);
            c.list(x, 6400000, 6400001, 6400001);
            x.move(0, 4);
            x.move(1, 4);
            x.deliver(1);
            x.tick(4);
            c.due("count(2, 0)", x.count(2, 0), 1);
            x.deliver(old);
            x.tick(1);
            c.due("messages(), 5 ticks after the ack that counted", x.messages(), 2);
            c.due("message(1)", x.message(1), 4000002);
        }
    }

    private static void eachMobileItsOwn(Check c) {
        c.part("each mobile has its own window, numbers and acks");
        RoamingNet x = fresh();
        for (int k = 0; k < 4; k++) {
            x.say(0);
            x.say(1);
        }
        c.list(x, 4000001, 4010001, 4000002, 4010002, 4000003, 4010003);
        x.deliver(1);
        x.deliver(5);
        c.due("count(0, 1)", x.count(0, 1), 1);
        c.due("count(0, 0)", x.count(0, 0), 0);
        x.deliver(5);
        c.due("count(2, 1)", x.count(2, 1), 1);
        c.due("count(2, 0)", x.count(2, 0), 0);
        c.due("count(1, 1)", x.count(1, 1), 4);
        c.due("count(1, 0)", x.count(1, 0), 3);
        c.due("message(5)", x.message(5), 4010004);
    }
}
