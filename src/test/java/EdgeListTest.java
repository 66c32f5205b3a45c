/** "At most 40; what would be sent as the 41st is lost": each way to send at the edge, and the first and last message. */
public final class EdgeListTest {
    // An injected request that nobody takes: it fills the list and does nothing when it arrives.
    private static final int FILLER = 2109999;

    public static void main(String[] args) {
        Check c = new Check("edges of the list");
        injectAtForty(c);
        duplicateAtForty(c);
        sayAtForty(c);
        advertsAtForty(c);
        requestsOfATickAtForty(c);
        dataOfATickAtForty(c);
        pumpedByAnAckAtForty(c);
        answersAtForty(c);
        answersThatAreNotLost(c);
        aLostMessageStaysLost(c);
        emptyList(c);
        firstAndLast(c);
        orderOfTheRest(c);
        c.end();
    }

    private static RoamingNet fresh() {
        return new RoamingNet(20, 30, 2);
    }

    /** Injects fillers until there are so many messages. */
    private static void fillTo(RoamingNet x, int size) {
        for (int k = x.messages(); k < size; k++) {
            x.inject(1, 0, 2, 9, 9999, 0);
        }
    }

    /** Nobody is in a network, so that a tick sends no adverts. */
    private static RoamingNet withNobody() {
        RoamingNet x = fresh();
        x.move(0, 4);
        x.move(1, 4);
        return x;
    }

    private static void injectAtForty(Check c) {
        c.part("inject: refused if there are 40 messages");
        RoamingNet x = fresh();
        for (int k = 1; k <= 39; k++) {
            c.due("inject, number " + k, x.inject(1, 0, 2, 9, 9999, 0), true);
        }
        c.due("inject with 39", x.inject(3, 1, 3, 60, 1, 0), true);
        c.due("messages()", x.messages(), 40);
        c.due("message(39)", x.message(39), 2310001);
        c.due("inject with 40", x.inject(3, 1, 3, 60, 2, 0), false);
        c.due("messages()", x.messages(), 40);
        c.due("message(39)", x.message(39), 2310001);
        x.drop(20);
        c.due("inject with 39 again", x.inject(3, 1, 3, 60, 3, 0), true);
        c.due("message(39)", x.message(39), 2310003);
    }

    private static void duplicateAtForty(Check c) {
        c.part("duplicate: false if there are 40");
        RoamingNet x = fresh();
        x.say(1);
        fillTo(x, 39);
        c.due("duplicate(0) with 39", x.duplicate(0), true);
        c.due("messages()", x.messages(), 40);
        c.due("message(39)", x.message(39), 4010001);
        c.due("duplicate(0) with 40", x.duplicate(0), false);
        c.due("duplicate(39) with 40", x.duplicate(39), false);
        c.due("messages()", x.messages(), 40);
        x.drop(39);
        c.due("duplicate(38) with 39", x.duplicate(38), true);
        c.due("message(39)", x.message(39), FILLER);
    }

    private static void sayAtForty(Check c) {
        c.part("say with a full list");
        for (int size = 38; size <= 40; size++) {
            RoamingNet x = withNobody();
            fillTo(x, size);
            c.due("say(0)", x.say(0), 1);
            c.due("say(0)", x.say(0), 2);
            c.due("messages() after " + size, x.messages(), 40);
            c.due("message(38) after " + size, x.message(38), size == 38 ? 4000001 : FILLER);
            c.due("message(39) after " + size, x.message(39), size == 38 ? 4000002 : size == 39 ? 4000001 : FILLER);
            c.due("message(40)", x.message(40), -1);
            // What is lost was sent all the same.
            c.due("count(1, 0)", x.count(1, 0), 2);
            c.due("count(3, 0)", x.count(3, 0), 2);
        }
    }

    private static void advertsAtForty(Check c) {
        c.part("adverts with a full list");
        for (int size = 37; size <= 40; size++) {
            RoamingNet x = fresh();
            x.move(0, 3);
            x.move(1, 2);
            fillTo(x, size);
            x.tick(4);
            c.due("messages() after " + size, x.messages(), size < 38 ? size + 2 : 40);
            c.due("message(" + size + ")", x.message(size), size < 40 ? 1510002 : -1);
            c.due("message(" + (size + 1) + ")", x.message(size + 1), size < 39 ? 1500003 : -1);
            c.due("message(40)", x.message(40), -1);
        }
    }

    private static void requestsOfATickAtForty(Check c) {
        c.part("a tick's requests with a full list");
        for (int size = 38; size <= 40; size++) {
            RoamingNet x = fresh();
            x.move(0, 1);
            x.move(1, 1);
            x.tick(4);
            Check.deliverFirst(x, 2);
            c.list(x, 2100001, 2110001);
            fillTo(x, size);
            x.tick(3);
            c.due("messages() after " + size, x.messages(), 40);
            c.due("message(38) after " + size, x.message(38), size == 38 ? 2100002 : FILLER);
            c.due("message(39) after " + size, x.message(39), size == 38 ? 2110002 : size == 39 ? 2100002 : FILLER);
            // A request that is lost is open like any other, and asked again in its turn.
            c.due("open(0)", x.open(0), 2);
            c.due("open(1)", x.open(1), 2);
            x.move(0, 4);
            x.move(1, 4);
            Check.dropAll(x);
            x.tick(2);
            c.list(x);
            x.tick(1);
            c.list(x, 2100003, 2110003);
        }
    }

    private static void dataOfATickAtForty(Check c) {
        c.part("a tick's data with a full list");
        for (int size = 36; size <= 40; size++) {
            RoamingNet x = withNobody();
            for (int k = 0; k < 3; k++) {
                x.say(1);
            }
            x.say(0);
            Check.dropAll(x);
            fillTo(x, size);
            x.tick(5);
            int[] again = {4000001, 4010001, 4010002, 4010003};
            c.due("messages() after " + size, x.messages(), 40);
            for (int i = size; i < 40; i++) {
                c.due("message(" + i + ")", x.message(i), again[i - size]);
            }
            c.due("message(39)", x.message(39), size == 40 ? FILLER : again[39 - size]);
            // Lost or not, last is the clock: the next ones come 5 ticks later.
            Check.dropAll(x);
            x.tick(4);
            c.list(x);
            x.tick(1);
            c.list(x, again);
        }
    }

    private static void pumpedByAnAckAtForty(Check c) {
        c.part("what an ack pumps with a full list");
        for (int size = 37; size <= 40; size++) {
            RoamingNet x = fresh();
            for (int k = 0; k < 6; k++) {
                x.say(0);
            }
            Check.deliverFirst(x, 6);
            x.drop(0);
            x.drop(0);
            c.list(x, 6400003);
            fillTo(x, size);
            x.deliver(0);
            c.due("count(2, 0)", x.count(2, 0), 3);
            c.due("count(1, 0)", x.count(1, 0), 6);
            c.due("messages() after " + size, x.messages(), size == 37 ? 39 : 40);
            for (int i = size - 1; i < 40; i++) {
                int number = 4 + i - (size - 1);
                c.due("message(" + i + ") after " + size, x.message(i), number <= 6 ? 4000000 + number : -1);
            }
        }
    }

    /** One message is taken out before it arrives, so one answer always finds room. */
    private static void answersAtForty(Check c) {
        c.part("an answer with a full list");
        RoamingNet x = fresh();
        x.move(0, 2);
        x.move(1, 4);
        x.tick(4);
        fillTo(x, 40);
        int[] answers = {2200001, 2000001, 3200001, 3500001};
        for (int answer : answers) {
            c.due("deliver", x.deliver(x.message(39) == FILLER ? 0 : 39), true);
            c.due("messages()", x.messages(), 40);
            c.due("message(39)", x.message(39), answer);
        }
        x.deliver(39);
        c.due("messages()", x.messages(), 39);
        c.due("registered(0)", x.registered(0), 2);
        x.say(0);
        int[] data = {5200001, 4500001, 6400001};
        for (int answer : data) {
            c.due("deliver(39)", x.deliver(39), true);
            c.due("messages()", x.messages(), 40);
            c.due("message(39)", x.message(39), answer);
        }
        x.deliver(39);
        c.due("messages()", x.messages(), 39);
        c.due("count(2, 0)", x.count(2, 0), 1);
    }

    private static void answersThatAreNotLost(Check c) {
        c.part("a denial with a full list");
        RoamingNet x = new RoamingNet(20, 30, 1);
        x.inject(3, 0, 3, 9, 1, 0);
        x.deliver(0);
        x.inject(3, 1, 3, 9, 5, 0);
        fillTo(x, 40);
        x.deliver(1);
        c.due("messages()", x.messages(), 40);
        c.due("message(39)", x.message(39), 3510005);
        c.part("a reply of home to its own network with a full list");
        RoamingNet y = fresh();
        y.inject(0, 1, 0, 0, 5, 0);
        fillTo(y, 40);
        y.deliver(0);
        c.due("messages()", y.messages(), 40);
        c.due("message(39)", y.message(39), 3510005);
        c.part("data of home with a full list");
        RoamingNet z = fresh();
        z.say(1);
        fillTo(z, 40);
        z.deliver(0);
        c.due("message(39)", z.message(39), 4510001);
    }

    private static void aLostMessageStaysLost(Check c) {
        c.part("the 41st comes back with no room that is made later");
        RoamingNet x = withNobody();
        fillTo(x, 40);
        x.say(0);
        x.drop(0);
        c.due("messages()", x.messages(), 39);
        c.due("message(38)", x.message(38), FILLER);
        c.due("message(39)", x.message(39), -1);
        x.say(1);
        c.due("message(39)", x.message(39), 4010001);
        Check.dropAll(x);
        c.list(x);
    }

    private static void emptyList(Check c) {
        c.part("there is none");
        RoamingNet x = fresh();
        c.due("messages()", x.messages(), 0);
        for (int i = -1; i <= 1; i++) {
            c.due("deliver(" + i + ")", x.deliver(i), false);
            c.due("drop(" + i + ")", x.drop(i), false);
            c.due("duplicate(" + i + ")", x.duplicate(i), false);
            c.due("message(" + i + ")", x.message(i), -1);
        }
        x.say(0);
        x.drop(0);
        c.due("deliver(0) after the last", x.deliver(0), false);
        c.due("drop(0) after the last", x.drop(0), false);
        c.due("duplicate(0) after the last", x.duplicate(0), false);
        c.due("message(0) after the last", x.message(0), -1);
    }

    /** Requests with IDs 1, 2, .. to agent 0, so that each message tells where it stood. */
    private static RoamingNet numbered(int size) {
        RoamingNet x = fresh();
        for (int k = 1; k <= size; k++) {
            x.inject(0, 0, 1, 9, k, 0);
        }
        return x;
    }

    private static void firstAndLast(Check c) {
        int[] sizes = {1, 2, 39, 40};
        for (int size : sizes) {
            c.part("first and last of " + size);
            int last = 2000000 + size;
            RoamingNet x = numbered(size);
            c.due("message(-1)", x.message(-1), -1);
            c.due("message(0)", x.message(0), 2000001);
            c.due("message(last)", x.message(size - 1), last);
            c.due("message(size)", x.message(size), -1);
            c.due("drop(-1)", x.drop(-1), false);
            c.due("drop(size)", x.drop(size), false);
            c.due("messages()", x.messages(), size);
            c.due("drop(last)", x.drop(size - 1), true);
            c.due("messages()", x.messages(), size - 1);
            c.due("message(last)", x.message(size - 1), -1);
            RoamingNet y = numbered(size);
            c.due("deliver(-1)", y.deliver(-1), false);
            c.due("deliver(size)", y.deliver(size), false);
            c.due("messages()", y.messages(), size);
            c.due("deliver(last)", y.deliver(size - 1), true);
            c.due("message(last)", y.message(size - 1), 3100000 + size);
            RoamingNet z = numbered(size);
            boolean room = size < 40;
            c.due("duplicate(-1)", z.duplicate(-1), false);
            c.due("duplicate(size)", z.duplicate(size), false);
            c.due("duplicate(last)", z.duplicate(size - 1), room);
            c.due("message(size)", z.message(size), room ? last : -1);
        }
    }

    private static void orderOfTheRest(Check c) {
        int[] gone = {0, 1, 20, 38, 39};
        for (int i : gone) {
            c.part("the order after message " + i + " of 40 is out");
            RoamingNet x = numbered(40);
            RoamingNet y = numbered(40);
            x.drop(i);
            y.deliver(i);
            for (int k = 0; k < 39; k++) {
                int id = k < i ? k + 1 : k + 2;
                c.due("message(" + k + ") after drop", x.message(k), 2000000 + id);
                c.due("message(" + k + ") after deliver", y.message(k), 2000000 + id);
            }
            c.due("message(39) after drop", x.message(39), -1);
            c.due("message(39) after deliver", y.message(39), 3100001 + i);
        }
    }
}
