/** Promise 9, its edges. */
public final class SentEdgesTest {
    public static void main(String[] args) {
        placesFromTheFirstToTheLastAreThere();
        otherPlacesAreNot();
        ofNothingThereIsNoFirst();
        theLeastGenerationComesFirst();
        ofEqualGenerationsTheLesserKeyComesFirst();
        ofEqualKeysTheLesserNumberComesFirst();
        manyComeInOneOrder();
        otherHoldersAreBad();
        badComesBeforeNotThere();
        Expect.end();
    }

    // "Number i (from 0) of SENT from HOLDER h", "or how many there are (i = -1)."
    private static void placesFromTheFirstToTheLastAreThere() {
        AncestryNet net = Nets.mixed();
        Expect.equal("sent(0, -1)", net.sent(0, -1), 2);
        Expect.equal("sent(0, 0)", net.sent(0, 0), 2);
        Expect.equal("sent(0, 1)", net.sent(0, 1), 3);
        Expect.equal("sent(1, -1)", net.sent(1, -1), 1);
        Expect.equal("sent(1, 0)", net.sent(1, 0), 4);
    }

    // "Not there: java.util.NoSuchElementException." And "so for all": i below -1, too.
    private static void otherPlacesAreNot() {
        AncestryNet net = Nets.mixed();
        Edges.allNotThere("place in two", Edges.outside(-1, 1), i -> net.sent(0, i));
        Edges.allNotThere("place in one", Edges.outside(-1, 0), i -> net.sent(1, i));
        Expect.equal("sent(0, 1) after that", net.sent(0, 1), 3);
    }

    // The same sentence, of a holder without tips, and of one that has nothing for itself.
    private static void ofNothingThereIsNoFirst() {
        AncestryNet net = Nets.line(2);
        net.tip(0, 1, true);
        Expect.equal("sent(1, -1) without tips", net.sent(1, -1), 0);
        Edges.allNotThere("place in what no tip has", Edges.outside(-1, -1), i -> net.sent(1, i));
        net.tip(1, 0, true);
        Expect.equal("sent(1, -1) with all in common", net.sent(1, -1), 0);
        Edges.allNotThere("place in what is common", Edges.outside(-1, -1), i -> net.sent(1, i));
    }

    // "those of the least GENERATION first": against the keys, the numbers and the times.
    private static void theLeastGenerationComesFirst() {
        AncestryNet net = new AncestryNet();
        net.add(Edges.LEAST, Edges.GREATEST, -1, -1, -1);
        net.add(0, 0, 0, -1, -1);
        net.add(Edges.GREATEST, Edges.LEAST, 1, -1, -1);
        net.add(Edges.LEAST, Edges.GREATEST, -1, -1, -1);
        net.tip(0, 2, true);
        net.tip(0, 3, true);
        Expect.equal("what is sent", Nets.sentFrom(net, 0), "0 3 1 2");
    }

    // "of equal ones the lesser KEY": with its sign, at the ends of all ints, and without a look at the time.
    private static void ofEqualGenerationsTheLesserKeyComesFirst() {
        int[] falling = {
            Edges.GREATEST, Edges.GREATEST - 1, 1, 0, -1, Edges.LEAST + 1, Edges.LEAST
        };
        AncestryNet net = new AncestryNet();
        for (int number = 0; number < falling.length; number++) {
            net.add(-number, falling[number], -1, -1, -1);
            net.tip(1, number, true);
        }
        Expect.equal("what is sent", Nets.sentFrom(net, 1), "6 5 4 3 2 1 0");
    }

    // "then the lesser number": without a look at the time.
    private static void ofEqualKeysTheLesserNumberComesFirst() {
        AncestryNet net = new AncestryNet();
        for (int number = 0; number < 7; number++) {
            net.add(number % 2 == 0 ? Edges.LEAST : Edges.GREATEST, Edges.GREATEST, -1, -1, -1);
        }
        for (int number = 6; number >= 0; number--) {
            net.tip(0, number, true);
        }
        Expect.equal("what is sent", Nets.sentFrom(net, 0), "0 1 2 3 4 5 6");
    }

    // The same three, of about as many as 512 calls can put in and ask for: 150, with each key three times.
    private static void manyComeInOneOrder() {
        AncestryNet net = new AncestryNet();
        for (int number = 0; number < 150; number++) {
            net.add(0, keyOf(number), -1, -1, -1);
            net.tip(0, number, true);
        }
        Expect.equal("how many", net.sent(0, -1), 150);
        int before = net.sent(0, 0);
        for (int i = 1; i < 150; i++) {
            int next = net.sent(0, i);
            boolean inOrder = keyOf(before) < keyOf(next) || keyOf(before) == keyOf(next) && before < next;
            Expect.equal(before + " before " + next, inOrder, true);
            before = next;
        }
    }

    private static int keyOf(int number) {
        return number * 37 % 50 - 25;
    }

    // "HOLDER h (0, 1)", no other.
    private static void otherHoldersAreBad() {
        AncestryNet net = Nets.mixed();
        Edges.allBad("h, how many", Edges.outside(0, 1), h -> net.sent(h, -1));
        Edges.allBad("h, the first", Edges.outside(0, 1), h -> net.sent(h, 0));
    }

    // Where h is bad there is nothing that i could be a place in.
    private static void badComesBeforeNotThere() {
        AncestryNet net = Nets.mixed();
        Edges.allBad("h of 2, with i", Edges.outside(-1, 1), i -> net.sent(2, i));
        Edges.allBad("h of -1, with i", Edges.outside(-1, 1), i -> net.sent(-1, i));
    }
}
