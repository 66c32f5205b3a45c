/** Promise 4: tick. */
public final class P04TickTest {
    public static void main(String[] args) {
        Check c = new Check("promise 4");
        refused(c);
        adverts(c);
        manyAreTheSameAsOneByOne(c);
        fullList(c);
        registrationEnds(c);
        requestAskedAgain(c);
        requestGivenUp(c);
        dataSentAgain(c);
        orderInATick(c);
        c.end();
    }

    private static void refused(Check c) {
        c.part("refused");
        RoamingNet x = new RoamingNet(20, 30, 2);
        int[] bad = {0, -1, 21, Integer.MIN_VALUE, Integer.MAX_VALUE};
        for (int n : bad) {
            c.due("tick(" + n + ")", x.tick(n), false);
        }
        c.due("messages()", x.messages(), 0);
        c.due("tick(3)", x.tick(3), true);
        c.due("messages()", x.messages(), 0);
        c.due("tick(1)", x.tick(1), true);
        c.due("messages()", x.messages(), 2);
    }

    private static void adverts(Check c) {
        c.part("adverts");
        RoamingNet x = new RoamingNet(20, 30, 2);
        x.move(0, 2);
        x.move(1, 1);
        x.tick(4);
        c.list(x, 1510001, 1500002);
        x.move(0, 3);
        x.move(1, 3);
        x.tick(3);
        c.due("messages()", x.messages(), 2);
        x.tick(1);
        c.list(x, 1510001, 1500002, 1500003, 1510003);
        x.move(0, 4);
        x.move(1, 0);
        x.tick(4);
        c.list(x, 1510001, 1500002, 1500003, 1510003, 1510000);
    }

    private static void manyAreTheSameAsOneByOne(Check c) {
        c.part("20 ticks");
        RoamingNet x = new RoamingNet(20, 30, 2);
        RoamingNet y = new RoamingNet(20, 30, 2);
        x.say(0);
        y.say(0);
        c.due("tick(20)", x.tick(20), true);
        for (int k = 0; k < 20; k++) {
            y.tick(1);
        }
        // Five rounds of two adverts, one message and its four repeats.
        c.due("messages()", x.messages(), 15);
        c.due("messages()", y.messages(), 15);
        for (int i = 0; i < 15; i++) {
            c.due("message(" + i + ")", x.message(i), y.message(i));
        }
    }

    private static void fullList(Check c) {
        c.part("full list");
        RoamingNet x = new RoamingNet(20, 30, 2);
        x.say(0);
        Check.fill(x);
        c.due("tick(4)", x.tick(4), true);
        c.due("messages()", x.messages(), 40);
        c.due("message(39)", x.message(39), 4000001);
        x.drop(0);
        x.tick(4);
        c.due("messages()", x.messages(), 40);
        // The repeat at clock 5 takes the one free row, before the adverts at clock 8.
        c.due("message(39)", x.message(39), 4000001);
        x.drop(0);
        x.tick(4);
        c.due("message(39)", x.message(39), 4000001);
        x.drop(0);
        x.tick(4);
        c.due("message(39)", x.message(39), 4000001);
        x.drop(0);
        x.tick(4);
        c.due("message(39) at clock 20", x.message(39), 1500000);
    }

    private static void registrationEnds(Check c) {
        c.part("registration ends");
        RoamingNet x = Check.registeredAt(1, 6, 60, 2);
        x.tick(5);
        c.due("registered(0) at 9", x.registered(0), 1);
        x.tick(1);
        c.due("registered(0) at 10", x.registered(0), -1);
        x.tick(10);
        c.due("registered(0) at 20", x.registered(0), -1);
        RoamingNet y = new RoamingNet(6, 6, 1);
        for (int k = 0; k < 25; k++) {
            y.tick(20);
        }
        c.due("registered(0) at 500", y.registered(0), 0);
    }

    private static void requestAskedAgain(Check c) {
        c.part("request asked again");
        RoamingNet x = Check.askingAt(1, 20, 30, 2);
        x.drop(0);
        x.move(0, 4);
        x.tick(2);
        c.due("open(0) at 6", x.open(0), 1);
        c.list(x);
        x.tick(1);
        c.due("open(0) at 7", x.open(0), 2);
        c.list(x, 2100002);
        x.tick(2);
        c.due("open(0) at 9", x.open(0), 2);
        x.tick(1);
        c.due("open(0) at 10", x.open(0), 3);
        x.tick(3);
        c.due("open(0) at 13", x.open(0), 4);
        x.tick(2);
        c.due("open(0) at 15", x.open(0), 4);
        x.tick(1);
        // Agent 1 was heard until 16: at 16 it is heard no more.
        c.due("open(0) at 16", x.open(0), 0);
        c.list(x, 2100002, 2100003, 2100004);
    }

    private static void requestGivenUp(Check c) {
        c.part("request given up");
        RoamingNet x = new RoamingNet(20, 30, 2);
        x.move(1, 4);
        x.tick(4);
        x.move(0, 1);
        x.tick(4);
        c.list(x, 1500000, 1500001);
        x.deliver(1);
        c.due("open(0)", x.open(0), 1);
        x.move(0, 0);
        x.deliver(0);
        c.due("open(0) after the home advert", x.open(0), 1);
        x.tick(2);
        c.due("open(0) at 10", x.open(0), 1);
        x.tick(1);
        c.due("open(0) at 11", x.open(0), 0);
        c.list(x, 2100001);
    }

    private static void dataSentAgain(Check c) {
        c.part("data sent again");
        RoamingNet x = new RoamingNet(20, 30, 2);
        x.move(0, 4);
        x.move(1, 4);
        x.tick(1);
        x.say(1);
        x.say(0);
        x.say(0);
        x.tick(4);
        c.list(x, 4010001, 4000001, 4000002);
        x.tick(1);
        c.list(x, 4010001, 4000001, 4000002, 4000001, 4000002, 4010001);
        x.tick(4);
        c.due("messages() at 10", x.messages(), 6);
        x.tick(1);
        c.due("messages() at 11", x.messages(), 9);
        c.due("count(1, 0)", x.count(1, 0), 2);
        someAcked(c);
    }

    private static void someAcked(Check c) {
        c.part("data sent again after an ack");
        RoamingNet x = new RoamingNet(20, 30, 2);
        for (int k = 0; k < 3; k++) {
            x.say(0);
        }
        x.tick(2);
        Check.deliverFirst(x, 1);
        x.deliver(2);
        x.deliver(2);
        c.due("count(2, 0)", x.count(2, 0), 1);
        x.move(0, 4);
        x.move(1, 4);
        x.tick(4);
        c.list(x, 4000002, 4000003);
        x.tick(1);
        c.list(x, 4000002, 4000003, 4000002, 4000003);
        Check.dropAll(x);
        x.move(0, 0);
        x.tick(5);
        Check.deliverAll(x);
        c.due("count(2, 0)", x.count(2, 0), 3);
        x.move(0, 4);
        x.tick(20);
        c.due("messages() when all is acked", x.messages(), 0);
    }

    private static void orderInATick(Check c) {
        c.part("order in a tick");
        RoamingNet x = new RoamingNet(20, 30, 2);
        x.move(0, 1);
        x.move(1, 2);
        x.tick(3);
        x.say(1);
        x.say(0);
        Check.dropAll(x);
        x.tick(2);
        c.list(x, 1500001, 1510002);
        x.deliver(1);
        x.deliver(0);
        c.list(x, 2210001, 2100001);
        Check.dropAll(x);
        x.tick(3);
        c.list(x, 1500001, 1510002, 2100002, 2210002, 4000001, 4010001);
    }
}
