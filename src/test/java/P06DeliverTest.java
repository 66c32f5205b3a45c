/** Promise 6: deliver, the list itself and what the mobiles and the correspondent do with what arrives. */
public final class P06DeliverTest {
    public static void main(String[] args) {
        Check c = new Check("promise 6");
        refused(c);
        takenOutFirst(c);
        advertHeard(c);
        advertOfAnAgentThatWasAsked(c);
        advertWhenItEndsSoon(c);
        advertAtHome(c);
        replyOfAnotherId(c);
        replyOfRefusal(c);
        replyCountsFromTheRequest(c);
        replyWithAnotherCareOf(c);
        dataInOrder(c);
        acks(c);
        c.end();
    }

    private static void refused(Check c) {
        c.part("refused");
        RoamingNet x = new RoamingNet(20, 30, 2);
        c.due("deliver(0)", x.deliver(0), false);
        x.say(0);
        x.say(1);
        int[] bad = {-1, 2, 39, 40, 41, Integer.MIN_VALUE, Integer.MAX_VALUE};
        for (int i : bad) {
            c.due("deliver(" + i + ")", x.deliver(i), false);
        }
        c.list(x, 4000001, 4010001);
        c.due("deliver(1)", x.deliver(1), true);
        c.list(x, 4000001, 4510001);
    }

    private static void takenOutFirst(Check c) {
        c.part("taken out first");
        RoamingNet x = new RoamingNet(20, 30, 2);
        x.say(0);
        Check.fill(x);
        c.due("deliver(39)", x.deliver(39), true);
        c.due("messages()", x.messages(), 40);
        c.due("message(39)", x.message(39), 4500001);
        c.due("message(38)", x.message(38), 4000001);
        c.due("deliver(0)", x.deliver(0), true);
        c.due("messages()", x.messages(), 40);
        c.due("message(38)", x.message(38), 4500001);
        c.due("message(39)", x.message(39), 4500001);
    }

    private static void advertHeard(Check c) {
        c.part("advert heard");
        RoamingNet x = new RoamingNet(20, 30, 2);
        x.move(0, 1);
        x.move(1, 4);
        x.tick(6);
        c.list(x, 1500001);
        c.due("deliver(0)", x.deliver(0), true);
        c.list(x, 2100001);
        c.due("open(0)", x.open(0), 1);
        c.due("registered(0)", x.registered(0), 0);
        x.drop(0);
        x.move(0, 4);
        // Heard until 6 + 12: the retries at 9, 12, 15 find it heard, the one at 18 does not.
        x.tick(11);
        c.due("open(0) at 17", x.open(0), 4);
        x.tick(1);
        c.due("open(0) at 18", x.open(0), 0);
        heardAgain(c);
    }

    private static void heardAgain(Check c) {
        c.part("advert heard again");
        RoamingNet x = new RoamingNet(20, 30, 2);
        x.move(0, 1);
        x.move(1, 4);
        x.tick(4);
        x.duplicate(0);
        x.deliver(0);
        x.tick(1);
        x.deliver(0);
        x.move(0, 4);
        // Asked at 4 and every 3 ticks after that, heard until 5 + 12.
        x.tick(11);
        c.due("open(0) at 16", x.open(0), 5);
        x.tick(2);
        c.due("open(0) at 18", x.open(0), 5);
        x.tick(1);
        c.due("open(0) at 19", x.open(0), 0);
    }

    private static void advertOfAnAgentThatWasAsked(Check c) {
        c.part("advert of an agent that was asked");
        RoamingNet x = new RoamingNet(20, 30, 2);
        x.move(0, 1);
        x.move(1, 4);
        x.tick(4);
        x.duplicate(0);
        x.duplicate(0);
        x.move(0, 2);
        x.tick(4);
        c.list(x, 1500001, 1500001, 1500001, 1500002);
        x.move(0, 1);
        x.deliver(0);
        c.due("open(0)", x.open(0), 1);
        x.deliver(0);
        c.list(x, 1500001, 1500002, 2100001);
        c.due("open(0) after the same advert", x.open(0), 1);
        x.move(0, 2);
        x.deliver(1);
        c.list(x, 1500001, 2100001, 2200002);
        c.due("open(0) after another's advert", x.open(0), 2);
        x.move(0, 1);
        x.deliver(0);
        c.list(x, 2100001, 2200002, 2100003);
        c.due("open(0) after the first one's again", x.open(0), 3);
    }

    private static void advertWhenItEndsSoon(Check c) {
        c.part("advert when it ends soon");
        RoamingNet x = Check.registeredAt(1, 20, 30, 2);
        x.tick(15);
        c.list(x, 1500001, 1500001, 1500001);
        c.due("deliver(0) at 19", x.deliver(0), true);
        c.due("open(0) at 19", x.open(0), 0);
        c.list(x, 1500001, 1500001);
        x.tick(1);
        c.due("deliver(0) at 20", x.deliver(0), true);
        c.due("open(0) at 20", x.open(0), 2);
        c.due("registered(0)", x.registered(0), 1);
        c.list(x, 1500001, 1500001, 2100002);
        x.deliver(2);
        x.deliver(2);
        c.due("binding(0)", x.binding(0), 120);
        x.deliver(2);
        x.deliver(2);
        x.tick(5);
        c.due("registered(0) at 25", x.registered(0), 1);
        c.part("advert when it has ended");
        RoamingNet y = Check.registeredAt(1, 6, 30, 2);
        y.tick(6);
        c.due("registered(0)", y.registered(0), -1);
        y.deliver(0);
        c.due("open(0)", y.open(0), 2);
    }

    private static void advertAtHome(Check c) {
        c.part("advert at home");
        RoamingNet x = Check.registeredAt(1, 20, 30, 2);
        x.move(0, 0);
        x.tick(4);
        c.list(x, 1500000);
        x.deliver(0);
        c.list(x, 2000002);
        x.deliver(0);
        c.due("binding(0)", x.binding(0), 0);
        c.list(x, 3500002);
        c.due("registered(0) before the reply", x.registered(0), 1);
        x.deliver(0);
        c.due("registered(0)", x.registered(0), 0);
        c.due("open(0)", x.open(0), 0);
        x.tick(20);
        x.tick(20);
        c.due("registered(0) at 48", x.registered(0), 0);
        Check.deliverAll(x);
        c.due("open(0)", x.open(0), 0);
        c.due("messages()", x.messages(), 0);
    }

    private static void replyOfAnotherId(Check c) {
        c.part("reply of another ID");
        RoamingNet x = Check.askingAt(1, 20, 30, 2);
        Check.deliverFirst(x, 3);
        c.list(x, 3500001);
        x.tick(3);
        c.due("open(0)", x.open(0), 2);
        c.list(x, 3500001, 2100002);
        x.deliver(0);
        c.due("open(0)", x.open(0), 2);
        c.due("registered(0)", x.registered(0), 0);
        Check.deliverAll(x);
        c.due("registered(0)", x.registered(0), 1);
        c.part("reply with no request open");
        x.move(0, 0);
        RoamingNet y = new RoamingNet(20, 30, 2);
        y.inject(0, 0, 0, 0, 3, Check.requestSeal(0, 0, 0, 0, 3));
        y.deliver(0);
        c.list(y, 3500003);
        y.deliver(0);
        c.due("open(0)", y.open(0), 0);
        c.list(y);
    }

    private static void replyOfRefusal(Check c) {
        c.part("reply with code 133");
        RoamingNet x = new RoamingNet(20, 30, 2);
        x.move(0, 2);
        x.move(1, 4);
        x.inject(0, 0, 3, 60, 1, Check.requestSeal(0, 0, 3, 60, 1));
        x.deliver(0);
        x.drop(0);
        x.tick(4);
        Check.deliverAll(x);
        c.due("open(0)", x.open(0), 0);
        c.due("registered(0)", x.registered(0), 0);
        c.due("binding(0)", x.binding(0), 326);
        c.due("visit(2, 0)", x.visit(2, 0), 0);
        c.part("reply with code 131");
        RoamingNet y = new RoamingNet(20, 30, 2);
        y.key(1, 0, 5);
        y.move(0, 2);
        y.move(1, 4);
        y.tick(4);
        Check.deliverFirst(y, 4);
        c.list(y, 3500001);
        y.key(1, 0, 0);
        y.deliver(0);
        c.due("open(0)", y.open(0), 0);
        c.due("registered(0)", y.registered(0), 0);
    }

    private static void replyCountsFromTheRequest(Check c) {
        c.part("reply counts from the request");
        RoamingNet x = Check.askingAt(1, 20, 6, 2);
        x.tick(2);
        Check.deliverAll(x);
        c.due("registered(0)", x.registered(0), 1);
        c.due("binding(0) at 6", x.binding(0), 106);
        c.due("visit(1, 0) at 6", x.visit(1, 0), 6);
        x.move(0, 4);
        x.tick(3);
        c.due("registered(0) at 9", x.registered(0), 1);
        x.tick(1);
        c.due("registered(0) at 10", x.registered(0), -1);
        c.due("binding(0) at 10", x.binding(0), 102);
        c.due("visit(1, 0) at 10", x.visit(1, 0), 2);
    }

    private static void replyWithAnotherCareOf(Check c) {
        c.part("reply with another care-of");
        RoamingNet x = Check.askingAt(1, 20, 30, 2);
        x.drop(0);
        x.inject(2, 0, 2, 7, 1, Check.requestSeal(0, 0, 2, 7, 1));
        Check.deliverFirst(x, 3);
        c.list(x, 3500001);
        x.move(0, 2);
        x.deliver(0);
        c.due("registered(0)", x.registered(0), 2);
        c.due("open(0)", x.open(0), 0);
        x.tick(6);
        c.due("registered(0) at 10", x.registered(0), 2);
        x.tick(1);
        c.due("registered(0) at 11", x.registered(0), -1);
    }

    private static void dataInOrder(Check c) {
        c.part("data in order");
        RoamingNet x = new RoamingNet(20, 30, 2);
        x.say(0);
        x.say(0);
        Check.deliverFirst(x, 2);
        c.list(x, 4500001, 4500002);
        x.duplicate(0);
        x.duplicate(1);
        x.deliver(1);
        c.due("count(0, 0) after 2", x.count(0, 0), 0);
        c.list(x, 4500001, 4500001, 4500002, 6400000);
        x.deliver(0);
        c.due("count(0, 0) after 1", x.count(0, 0), 1);
        c.due("message(3)", x.message(3), 6400001);
        x.deliver(0);
        c.due("count(0, 0) after 1 again", x.count(0, 0), 1);
        c.due("message(3)", x.message(3), 6400001);
        x.deliver(0);
        c.due("count(0, 0) after 2", x.count(0, 0), 2);
        c.list(x, 6400000, 6400001, 6400001, 6400002);
        c.due("count(0, 1)", x.count(0, 1), 0);
        x.say(1);
        x.deliver(4);
        x.deliver(4);
        c.due("message(4)", x.message(4), 6410001);
    }

    private static void acks(Check c) {
        c.part("acks");
        RoamingNet x = new RoamingNet(20, 30, 2);
        for (int k = 0; k < 7; k++) {
            x.say(0);
        }
        Check.deliverFirst(x, 6);
        c.list(x, 6400001, 6400002, 6400003);
        x.duplicate(0);
        x.duplicate(1);
        x.tick(3);
        x.deliver(1);
        c.due("count(2, 0)", x.count(2, 0), 2);
        c.due("count(1, 0)", x.count(1, 0), 5);
        c.list(x, 6400001, 6400003, 6400001, 6400002, 4000004, 4000005);
        x.tick(1);
        x.deliver(3);
        x.deliver(0);
        c.due("count(2, 0) after old acks", x.count(2, 0), 2);
        c.due("count(1, 0) after old acks", x.count(1, 0), 5);
        x.tick(3);
        c.due("messages() at 7", x.messages(), 6);
        x.tick(1);
        // Old acks at 4 leave last at 3, so the repeat of 3, 4 and 5 is due at 8.
        c.due("messages() at 8", x.messages(), 11);
        c.due("message(10)", x.message(10), 4000005);
        x.deliver(0);
        c.due("count(2, 0)", x.count(2, 0), 3);
        c.due("count(1, 0)", x.count(1, 0), 6);
        ackAlonePutsLast(c);
    }

    private static void ackAlonePutsLast(Check c) {
        c.part("an ack puts last");
        RoamingNet x = new RoamingNet(20, 30, 2);
        x.say(0);
        x.say(0);
        x.move(1, 4);
        Check.deliverFirst(x, 1);
        x.deliver(1);
        c.list(x, 4000002, 6400001);
        x.move(0, 4);
        x.tick(4);
        x.deliver(1);
        c.list(x, 4000002);
        x.tick(4);
        c.list(x, 4000002);
        x.tick(1);
        c.list(x, 4000002, 4000002);
    }
}
