/** The sentences of the promises 1 to 17, each with its boundaries; the words are the document's. */
public final class BoundariesTest {
    public static void main(String[] args) {
        newObject();
        place();
        shape();
        corner();
        close();
        unsure();
        force();
        inside();
        threeWay();
        area();
        misfit();
        distance();
        name();
        nameOn();
        mark();
        placed();
        masked();
        Check.end("BoundariesTest");
    }

    private static void newObject() {
        Sentence.holds("Promise 1: No places.", """
                # no place, and so none of what a place has
                force 0 0 = NSE; place 0 = NSE; place 15 = NSE; shape 0 0 0 = NSE; area 0 0 = NSE; nameOn 0 0 = NSE
                threeWay 0 0 0 0 = NSE; distance 0 0 0 = NSE; name 0 0 0 0 = NSE; inside 0 0 0 0 = NONE
                misfit 0 0 = NONE; inside 10000 10000 100000 max = NONE; misfit max 100000 = NONE
                """, """
                # no shapes, names and marks either: the first of each is the first
                corner 0 0 0 = NSE; close 0 = NSE; unsure 0 1 = NSE; placed 0 0 0 = ISE; mark 0 0 0 0 = 0
                place NONE = 0; shape 0 0 9 = 0; corner 0 0 0 = 1; nameOn 0 0 = NONE
                """, """
                # masked needs nothing that is in it
                masked 7 7 5 0 = 5; masked -7 -7 5 1 = -10
                """);
    }

    private static void place() {
        Sentence.holds("Promise 2: A place in a parent (NONE: in none): its number.", """
                place NONE = 0; place 0 = 1; place 1 = 2; place 0 = 3; place NONE = 4; place 4 = 5
                square 0 0 9 0 0 9; square 4 0 9 50 50 9; square 1 0 9 50 50 9; square 5 0 9 50 50 9; misfit 0 5 = 1
                misfit 1 5 = NONE
                """, """
                # -1 is none, but -2 is no parent
                place -1 = 0; place -2 = NSE; place -1 = 1
                """);
        Sentence.holds("Promise 2: NoSuchElementException", """
                # the place that is about to be made is none yet, nor is any behind it
                place 0 = NSE; place NONE = 0; place 1 = NSE; place 0 = 1; place 2 = NSE; place 1 = 2; place 15 = NSE
                place 16 = NSE; place min = NSE; place max = NSE; place -2 = NSE
                """);
        Sentence.holds("Promise 2: IllegalStateException: there are sixteen.", """
                # fifteen are not yet too many
                places 15; place 14 = 15; place 14 = ISE; place NONE = ISE; place 0 = ISE; place 15 = ISE
                force 15 0 = NONE; force 16 0 = NSE
                """, """
                # no such parent goes first
                places 16; place 16 = NSE; place 17 = NSE; place -2 = NSE; place NONE = ISE
                """);
    }

    private static void shape() {
        Sentence.holds("Promise 3: A shape without corners: its number.", """
                places 2; shape 1 0 9 = 0; corner 0 5 5 = 1; shape 0 0 9 = 1; corner 1 5 5 = 1; shape 1 0 9 = 2
                close 2 = false; corner 2 5 5 = 1; corner 0 6 5 = 2; force 0 5 = NONE; force 1 5 = NONE
                """);
        Sentence.holds("Promise 3: NoSuchElementException", """
                places 2; shape 2 0 9 = NSE; shape -1 0 9 = NSE; shape 16 0 9 = NSE; shape 2 9 0 = NSE
                shape -1 -1 -1 = NSE; shape 1 0 9 = 0; shape 0 0 9 = 1
                """);
        Sentence.holds("Promise 3: IllegalArgumentException: a day, or from is above to.", """
                # the first day and the last
                places 1; shape 0 -1 9 = IAE; shape 0 0 9 = 0; shape 0 9 100000 = 1; shape 0 9 100001 = IAE
                shape 0 100001 100001 = IAE; shape 0 -1 -1 = IAE
                """, """
                # from below to, the same, above it
                places 1; shape 0 4 5 = 0; shape 0 5 5 = 1; shape 0 6 5 = IAE; shape 0 100000 99999 = IAE
                shape 0 1 0 = IAE; shape 0 0 0 = 2; shape 0 100000 100000 = 3; shape 0 100000 0 = IAE
                """);
        Sentence.holds("Promise 3: IllegalStateException: there are 32.",
                // 31 are not yet too many; of which place they are is one
                "places 2;" + "shape 0 0 9;".repeat(31) + """
                shape 1 0 9 = 31; shape 1 0 9 = ISE; shape 0 0 9 = ISE; corner 31 0 0 = 1; corner 32 0 0 = NSE
                """,
                "places 2;" + "shape 0 0 9; shape 1 0 9;".repeat(16) + """
                shape 2 0 9 = NSE; shape 1 9 0 = IAE; shape 1 0 100001 = IAE; shape 1 0 9 = ISE
                """);
    }

    private static void corner() {
        Sentence.holds("Promise 4: A corner behind the others: how many there are.", """
                # each shape has its own count
                places 1; shape 0 0 9; shape 0 0 9; corner 0 0 0 = 1; corner 1 0 0 = 1; corner 0 8 0 = 2
                corner 0 0 8 = 3; corner 1 6 0 = 2; close 0 = true; corner 1 6 6 = 3; corner 1 0 6 = 4; close 1 = true
                area 0 5 = 72
                """, """
                # a corner may be the same as one before it; it is close that refuses
                places 1; shape 0 0 9; corner 0 5 5 = 1; corner 0 5 5 = 2; corner 0 5 5 = 3; close 0 = false
                corner 0 5 5 = 4
                """);
        Sentence.holds("Promise 4: NoSuchElementException", """
                corner 0 0 0 = NSE; place NONE; corner 0 0 0 = NSE; shape 0 0 9; corner 1 0 0 = NSE
                corner -1 0 0 = NSE; corner 31 0 0 = NSE; corner 1 10001 0 = NSE; corner 0 0 0 = 1
                """);
        Sentence.holds("Promise 4: IllegalArgumentException: no point.", """
                # x alone, y alone, both
                places 1; shape 0 0 9; corner 0 10001 0 = IAE; corner 0 0 10001 = IAE; corner 0 10001 10001 = IAE
                corner 0 -10001 0 = IAE; corner 0 0 -10001 = IAE; corner 0 -10001 -10001 = IAE
                corner 0 10000 10000 = 1; corner 0 -10000 10000 = 2; corner 0 -10000 -10000 = 3; close 0 = true
                """);
        Sentence.holds("Promise 4: IllegalStateException: it is closed, or has twelve.", """
                # closed with three; a close that could not be leaves it open
                places 1; open 0 0 9 0 0 8 0; close 0 = false; corner 0 0 8 = 3; close 0 = true; corner 0 -1 -1 = ISE
                corner 0 10001 0 = IAE; area 0 5 = 64
                """, """
                # eleven and twelve, open; and twelve, closed
                places 1; open 0 0 9 0 0 1 0 2 0 3 0 4 0 5 0 5 1 4 1 3 1 2 1 1 1; corner 0 0 1 = 12; corner 0 0 2 = ISE
                corner 0 0 -10001 = IAE; close 0 = true; corner 0 0 2 = ISE; area 0 5 = 10
                """, """
                # a full one that cannot be closed stays full
                places 1; open 0 0 9 0 0 0 0 0 0 0 0 0 0 0 0 0 0 0 0 0 0 0 0 0 0 0 0; close 0 = false
                corner 0 1 1 = ISE; shape 0 0 9 = 1; corner 1 1 1 = 1
                """);
    }

    private static void close() {
        Sentence.holds("Promise 5: Closes a shape: whether that can be (no, if it is closed).", """
                places 1; open 0 0 9 0 0 4 0 0 4; close 0 = true; close 0 = false; close 0 = false; force 0 5 = 0
                """, """
                # no with too few, and yes later, when it can be
                places 1; shape 0 0 9; close 0 = false; corner 0 0 0; close 0 = false; corner 0 8 0; close 0 = false
                corner 0 4 0 = 3; close 0 = false; corner 0 4 4 = 4; close 0 = false; shape 0 0 9
                corner 1 0 0; corner 1 8 8; corner 1 8 0; corner 1 0 8 = 4; close 1 = false; corner 1 -9 -9 = 5
                close 1 = false; force 0 5 = NONE
                """, """
                # a crossing of the last line alone goes away with one more corner
                places 1; open 0 0 9 0 0 8 0 8 8 2 8 2 2 4 6; close 0 = false; corner 0 6 6 = 7; close 0 = false
                corner 0 7 1 = 8; close 0 = true; force 0 5 = 0
                """, """
                # 32 shapes may all be closed
                places 2;""" + "square 1 0 9 0 0 4;".repeat(32) + "close 31 = false; close 0 = false; force 1 5 = 31");
        Sentence.holds("Promise 5: NoSuchElementException", """
                close 0 = NSE; place NONE; close 0 = NSE; open 0 0 9 0 0 4 0 0 4; close 1 = NSE; close -1 = NSE
                close 31 = NSE; close 32 = NSE; close min = NSE; close max = NSE; force 0 5 = NONE; close 0 = true
                """);
    }

    private static void unsure() {
        Sentence.holds("Promise 6: Two shapes are unsure with one another, in place of those that either was", """
                # on days of their own each shows what it is unsure with: the first loses its one
                places 1; square 0 0 0 0 0 2; square 0 1 1 0 0 4; square 0 2 2 0 0 6; unsure 0 1 = true
                threeWay 0 3 3 0 = 1; threeWay 0 3 3 1 = 1; threeWay 0 3 3 2 = 2; unsure 0 2 = true
                threeWay 0 5 5 0 = 1; threeWay 0 3 3 1 = 2; threeWay 0 3 3 2 = 1
                """, """
                # the other loses its one
                places 1; square 0 0 0 0 0 2; square 0 1 1 0 0 4; square 0 2 2 0 0 6; unsure 0 1 = true
                unsure 2 0 = true; threeWay 0 5 5 0 = 1; threeWay 0 3 3 1 = 2; threeWay 0 3 3 2 = 1
                """, """
                # both lose theirs
                places 1; square 0 0 0 0 0 2; square 0 1 1 0 0 4; square 0 2 2 0 0 6; square 0 3 3 0 0 8
                unsure 0 1 = true; unsure 2 3 = true; unsure 1 3 = true; threeWay 0 3 3 0 = 0; threeWay 0 5 5 2 = 2
                threeWay 0 7 7 2 = 0; threeWay 0 7 7 1 = 1; threeWay 0 7 7 3 = 1; threeWay 0 4 4 3 = 2
                """, """
                # the same two again, either way
                places 1; square 0 0 9 0 0 2; square 0 1 1 0 0 4; unsure 0 1 = true; unsure 0 1 = true
                unsure 1 0 = true; threeWay 0 3 3 0 = 1; threeWay 0 3 3 1 = 1; threeWay 0 2 2 1 = 2
                """, """
                # sixteen pairs at once
                places 1;""" + "square 0 0 9 0 0 2; square 0 0 9 0 0 4;".repeat(16) + """
                unsure 0 1; unsure 2 3; unsure 4 5; unsure 6 7; unsure 8 9; unsure 10 11; unsure 12 13; unsure 14 15
                unsure 16 17; unsure 18 19; unsure 20 21; unsure 22 23; unsure 24 25; unsure 26 27; unsure 28 29
                unsure 30 31 = true; threeWay 0 3 3 5 = 1; unsure 29 31 = true; threeWay 0 3 3 5 = 2
                """);
        Sentence.holds("Promise 6: whether that can be (both closed, of one place, and not the same).", """
                # what cannot be leaves what was
                places 2; square 0 0 9 0 0 6; square 0 0 9 0 0 4; square 1 0 9 0 0 2; open 0 0 9 0 0 2 0 0 2
                unsure 0 1 = true; threeWay 0 5 5 5 = 1; unsure 1 2 = false; unsure 2 1 = false; unsure 1 3 = false
                unsure 3 1 = false; unsure 3 3 = false; unsure 1 1 = false; unsure 0 0 = false; threeWay 0 5 5 5 = 1
                threeWay 1 2 2 5 = 2; threeWay 1 3 3 5 = 0
                """, """
                # their days may have none in common
                places 1; square 0 0 4 0 0 6; square 0 5 9 0 0 4; unsure 0 1 = true; threeWay 0 5 5 0 = 1
                threeWay 0 5 5 9 = 1
                """, """
                # an open one can be, as soon as it is closed
                places 1; square 0 0 9 0 0 6; open 0 0 0 0 0 4 0 0 4; unsure 0 1 = false; close 1 = true
                unsure 0 1 = true; threeWay 0 5 5 5 = 1
                """);
        Sentence.holds("Promise 6: NoSuchElementException", """
                # either may be none, also where it could not be anyway
                places 1; unsure 0 0 = NSE; square 0 0 9 0 0 6; open 0 0 9 0 0 1 1; unsure 0 2 = NSE; unsure 2 0 = NSE
                unsure 2 2 = NSE; unsure 1 2 = NSE; unsure 2 1 = NSE; unsure -1 1 = NSE; unsure 1 -1 = NSE
                unsure 0 min = NSE; unsure max 0 = NSE; threeWay 0 6 6 5 = 2
                """);
    }

    private static void force() {
        Sentence.holds("Promise 7: A place's shape on a day; NONE.", """
                # shape 0 is a shape, and not none
                places 2; force 0 5 = NONE; square 0 4 6 0 0 1 = 0; force 0 3 = NONE; force 0 4 = 0; force 0 6 = 0
                force 0 7 = NONE; force 1 5 = NONE
                """, """
                # two that follow one another day by day, with a gap behind
                places 1; square 0 0 4 0 0 1; square 0 5 6 0 0 2; square 0 8 9 0 0 3; force 0 4 = 0; force 0 5 = 1
                force 0 6 = 1; force 0 7 = NONE; force 0 8 = 2; force 0 9 = 2; force 0 10 = NONE
                """);
        Sentence.holds("Promise 7: NoSuchElementException", """
                force 0 0 = NSE; places 2; force 1 0 = NONE; force 2 0 = NSE; force -1 0 = NSE; force 2 -1 = NSE
                force -1 100001 = NSE
                """);
        Sentence.holds("Promise 7: IllegalArgumentException: no day.", """
                places 1; force 0 -1 = IAE; force 0 0 = NONE; force 0 100000 = NONE; force 0 100001 = IAE
                """);
    }

    private static void inside() {
        Sentence.holds("Promise 8: The k-th place, by numbers, in whose shape on a day a point is; NONE.", """
                # by the numbers of the places, not of the shapes; from 0 on
                places 4; square 3 0 9 0 0 4 = 0; square 1 0 9 0 0 4 = 1; square 2 0 9 9 9 4 = 2
                inside 2 2 5 0 = 1; inside 2 2 5 1 = 3; inside 2 2 5 2 = NONE; inside 2 2 5 max = NONE
                inside 9 9 5 0 = 2; inside 9 9 5 1 = NONE; inside 7 7 5 0 = NONE; inside 2 2 10 0 = NONE
                """, """
                # a place counts once, however many shapes of it have the point
                places 2; square 0 0 9 0 0 4; square 0 0 9 0 0 6; square 1 0 9 0 0 4; inside 2 2 5 0 = 0
                inside 2 2 5 1 = 1; inside 2 2 5 2 = NONE
                """, """
                # a shape that another is unsure with has no say
                places 2; square 0 0 9 0 0 6; square 0 0 9 0 0 2; square 1 0 9 0 0 6; unsure 0 1 = true
                inside 5 5 5 0 = 1; inside 2 2 5 0 = 0; inside 2 2 5 1 = 1
                """,
                // all sixteen
                "places 16;" + """
                square 15 0 9 0 0 4; square 14 0 9 0 0 4; square 13 0 9 0 0 4; square 12 0 9 0 0 4
                square 11 0 9 0 0 4; square 10 0 9 0 0 4; square 9 0 9 0 0 4; square 8 0 9 0 0 4
                square 7 0 9 0 0 4; square 6 0 9 0 0 4; square 5 0 9 0 0 4; square 4 0 9 0 0 4
                square 3 0 9 0 0 4; square 2 0 9 0 0 4; square 1 0 9 0 0 4; square 0 0 9 0 0 4
                inside 4 4 5 0 = 0; inside 4 4 5 7 = 7; inside 4 4 5 14 = 14; inside 4 4 5 15 = 15
                inside 4 4 5 16 = NONE; inside 5 4 5 0 = NONE
                """);
        Sentence.holds("Promise 8: NoSuchElementException: k is below 0.", """
                inside 0 0 0 -1 = NSE; inside 0 0 0 0 = NONE; inside 0 0 0 min = NSE; places 1; square 0 0 9 0 0 4
                inside 0 0 0 -1 = NSE; inside 0 0 0 0 = 0; inside 10001 0 0 -1 = NSE; inside 0 0 100001 -1 = NSE
                """);
        Sentence.holds("Promise 8: IllegalArgumentException: no point, or no day.", """
                # also without a place, and for a k that is too large
                inside 10001 0 0 0 = IAE; inside 0 -10001 0 0 = IAE; inside 0 0 -1 0 = IAE; inside 0 0 100001 0 = IAE
                inside 10001 0 0 max = IAE; inside 0 0 -1 max = IAE; inside 10000 -10000 0 0 = NONE
                inside -10000 10000 100000 0 = NONE
                """);
    }

    private static void threeWay() {
        Sentence.holds("Promise 9: 2 if the point is in it, and in the one that it is unsure with "
                + "(if there is one)", """
                # without one: 2 on the border and inside, 0 a step off, never 1
                places 1; square 0 0 9 0 0 6; threeWay 0 0 0 5 = 2; threeWay 0 6 3 5 = 2; threeWay 0 3 3 5 = 2
                threeWay 0 7 3 5 = 0; threeWay 0 3 -1 5 = 0
                """, """
                # with one: 2 where both have it
                places 1; square 0 0 9 0 0 6; square 0 0 9 3 3 6; unsure 0 1 = true; threeWay 0 3 3 5 = 2
                threeWay 0 6 6 5 = 2; threeWay 0 4 5 5 = 2
                """);
        Sentence.holds("Promise 9: 1 if in one of both, 0 if in neither", """
                # whichever of both is in force, and whichever day the other has
                places 1; square 0 0 9 0 0 6; square 0 5 5 3 3 6; unsure 0 1 = true; threeWay 0 2 3 5 = 1
                threeWay 0 7 6 5 = 1; threeWay 0 2 2 0 = 1; threeWay 0 9 9 0 = 1; threeWay 0 2 7 5 = 0
                threeWay 0 10 9 0 = 0; threeWay 0 9 10 5 = 0; threeWay 0 0 9 9 = 0
                """, """
                # one closed later, which is unsure with none, counts alone
                places 1; square 0 0 9 0 0 6; square 0 0 9 3 3 6; unsure 0 1 = true; square 0 5 5 0 0 1
                threeWay 0 4 4 5 = 0; threeWay 0 1 1 5 = 2; threeWay 0 1 1 4 = 1; threeWay 0 4 4 6 = 2
                """);
        Sentence.holds("Promise 9: NONE without a shape.", """
                places 2; threeWay 0 0 0 5 = NONE; open 0 5 6 0 0 4 0 0 4; threeWay 0 0 0 5 = NONE; close 0 = true
                threeWay 0 0 0 4 = NONE; threeWay 0 0 0 5 = 2; threeWay 0 0 0 6 = 2; threeWay 0 0 0 7 = NONE
                threeWay 1 0 0 5 = NONE; threeWay 0 5 5 5 = 0
                """);
        Sentence.holds("Promise 9: NoSuchElementException; IllegalArgumentException: no point, or no day.", """
                threeWay 0 0 0 0 = NSE; places 1; threeWay 1 0 0 0 = NSE; threeWay -1 0 0 0 = NSE
                threeWay 1 10001 0 0 = NSE; threeWay 1 0 0 -1 = NSE; threeWay 0 10001 0 0 = IAE
                threeWay 0 0 10001 0 = IAE; threeWay 0 -10001 0 0 = IAE; threeWay 0 0 -10001 0 = IAE
                threeWay 0 0 0 -1 = IAE; threeWay 0 0 0 100001 = IAE; threeWay 0 10000 -10000 100000 = NONE
                """);
    }

    private static void area() {
        Sentence.holds("Promise 10: Twice the area of a place's shape on a day (0 without one).", """
                # the least, odd, and the largest
                places 1; area 0 5 = 0; ring 0 1 1 0 0 1 0 0 1; area 0 1 = 1; ring 0 2 2 0 0 3 0 0 1; area 0 2 = 3
                square 0 3 3 -10000 -10000 20000; area 0 3 = 800000000; area 0 4 = 0; area 0 0 = 0
                """, """
                # either way round, from any corner on, far from 0
                places 1; ring 0 1 1 0 0 8 0 8 8 4 2 0 8; area 0 1 = 80; ring 0 2 2 0 8 4 2 8 8 8 0 0 0; area 0 2 = 80
                ring 0 3 3 4 2 0 8 0 0 8 0 8 8; area 0 3 = 80
                ring 0 4 4 9990 9990 9998 9990 9998 9998 9994 9992 9990 9998; area 0 4 = 80
                ring 0 5 5 -10000 -10000 -10000 -9992 -9996 -9998 -9992 -9992 -9992 -10000; area 0 5 = 80
                """, """
                # the largest triangle, and the thinnest
                places 1; ring 0 1 1 -10000 -10000 10000 -10000 -10000 10000; area 0 1 = 400000000
                ring 0 2 2 -10000 -10000 10000 9999 10000 10000; area 0 2 = 20000
                ring 0 3 3 -10000 -10000 9999 9998 10000 9999; area 0 3 = 1
                """, """
                # of the one that it is unsure with it is none
                places 1; square 0 0 9 0 0 4; square 0 0 9 0 0 6; unsure 0 1 = true; area 0 5 = 72
                """, """
                # of an open one it is none
                places 1; open 0 0 9 0 0 8 0 8 8; area 0 5 = 0; close 0 = true; area 0 5 = 64
                """);
        Sentence.holds("Promise 10: NoSuchElementException; IllegalArgumentException: no day.", """
                area 0 0 = NSE; places 1; area 0 0 = 0; area 1 0 = NSE; area -1 0 = NSE; area 1 -1 = NSE
                area 0 -1 = IAE; area 0 100000 = 0; area 0 100001 = IAE
                """);
    }

    private static void misfit() {
        Sentence.holds("Promise 11: The k-th place, by numbers, that misfits on a day; NONE.", """
                # by the numbers of the places, from 0 on; a parent with a higher number cannot be
                place NONE; place 0; place 0; place 0; square 0 0 9 0 0 6; square 3 0 9 0 0 7; square 1 0 9 0 0 8
                square 2 0 9 0 0 6; misfit 0 5 = 1; misfit 1 5 = 3; misfit 2 5 = NONE; misfit max 5 = NONE
                misfit 0 10 = NONE
                """, """
                # a chain of sixteen, each larger than its parent: all but the first
                place NONE; place 0; place 1; place 2; place 3; place 4; place 5; place 6; place 7; place 8; place 9
                place 10; place 11; place 12; place 13; place 14
                """ + numberedSquares() + """
                misfit 0 5 = 1; misfit 1 5 = 2; misfit 13 5 = 14; misfit 14 5 = 15; misfit 15 5 = NONE
                """, """
                # a place may misfit though the parent of its parent has it
                place NONE; place 0; place 1; square 0 0 9 0 0 9; square 1 0 9 0 0 3; square 2 0 9 4 4 3
                misfit 0 5 = 2; misfit 1 5 = NONE
                """, """
                # a shape that another is unsure with has no say, of the parent nor of the place
                place NONE; place 0; square 0 0 9 0 0 20; square 0 0 9 0 0 6; square 1 0 9 0 0 2; square 1 0 9 0 0 7
                unsure 0 1 = true; unsure 2 3 = true; misfit 0 5 = 1; square 0 0 9 0 0 7; misfit 0 5 = NONE
                """);
        Sentence.holds("Promise 11: NoSuchElementException: k is below 0. IllegalArgumentException: no day.", """
                misfit -1 0 = NSE; misfit min 0 = NSE; misfit -1 -1 = NSE; misfit -1 100001 = NSE; misfit 0 -1 = IAE
                misfit 0 0 = NONE; misfit 0 100000 = NONE; misfit 0 100001 = IAE; misfit max -1 = IAE
                misfit max 0 = NONE
                """);
    }

    private static String numberedSquares() {
        StringBuilder all = new StringBuilder();
        for (int i = 0; i < 16; i++) {
            all.append("square ").append(i).append(" 0 9 0 0 ").append(i + 1).append(';');
        }
        return all.append('\n').toString();
    }

    private static void distance() {
        Sentence.holds("Promise 12: The least square of the distance from a corner of a place's shape on a day "
                + "to one of another place's", """
                # of all corners with all corners: the first, the last, the twelfth
                places 2; ring 0 0 9 0 0 8 0 0 8; ring 1 1 1 11 4 30 0 30 30; distance 0 1 1 = 25; distance 1 0 1 = 25
                ring 1 2 2 30 0 30 30 -1 9; distance 0 1 2 = 2; distance 1 0 2 = 2
                ring 1 3 3 30 0 31 0 32 0 33 0 34 0 35 0 35 5 34 5 33 5 32 5 31 5 7 2; distance 0 1 3 = 5
                distance 1 0 3 = 5
                """, """
                # corners count, not lines: one upon the middle of a line is as far as from its ends
                places 2; ring 0 0 9 0 0 8 0 0 8; ring 1 0 9 4 0 5 -9 3 -9; distance 0 1 5 = 16; distance 1 0 5 = 16
                """, """
                # the farthest
                places 2; ring 0 0 9 -10000 -10000 -9999 -10000 -10000 -9999
                ring 1 0 9 10000 10000 9999 10000 10000 9999; distance 0 1 5 = 799920002; distance 1 0 5 = 799920002
                """, """
                # a shape that another is unsure with has no say
                places 2; square 0 0 9 7 8 4; square 0 0 9 0 0 4; square 1 0 9 7 8 4; unsure 0 1 = true
                distance 0 1 5 = 25; distance 1 0 5 = 25
                """, """
                # the nearest: a corner in common is 0, a step beside it 1
                places 2; square 0 0 9 0 0 4; square 1 0 4 4 4 4; square 1 5 9 5 4 4; distance 0 1 4 = 0
                distance 0 1 5 = 1
                """);
        Sentence.holds("Promise 12: (which may be the same one: 0 then)", """
                places 1; square 0 5 6 7 7 4; distance 0 0 5 = 0; distance 0 0 6 = 0
                """);
        Sentence.holds("Promise 12: NONE if one has none.", """
                # neither, the first alone, the second alone, one place without a shape twice
                places 2; distance 0 1 5 = NONE; distance 0 0 5 = NONE; square 0 5 7 0 0 4; distance 0 1 5 = NONE
                distance 1 0 5 = NONE; distance 1 1 5 = NONE; square 1 7 9 7 8 4; distance 0 1 6 = NONE
                distance 0 1 7 = 25; distance 0 1 8 = NONE; distance 1 0 8 = NONE; distance 0 0 8 = NONE
                """, """
                # an open one is none
                places 2; square 0 0 9 0 0 4; open 1 0 9 0 0 4 0 0 4; distance 0 1 5 = NONE; close 1 = true
                distance 0 1 5 = 0
                """);
        Sentence.holds("Promise 12: NoSuchElementException; IllegalArgumentException: no day.", """
                distance 0 0 0 = NSE; places 1; distance 0 1 0 = NSE; distance 1 0 0 = NSE; distance -1 0 0 = NSE
                distance 0 -1 0 = NSE; distance 1 1 0 = NSE; distance 0 1 -1 = NSE; distance 1 0 100001 = NSE
                distance 0 0 -1 = IAE; distance 0 0 0 = NONE; distance 0 0 100000 = NONE; distance 0 0 100001 = IAE
                """);
    }

    private static void name() {
        Sentence.holds("Promise 13: A name.", """
                # the least number and the largest; the same again is one more
                places 1; name 0 0 0 9 = done; nameOn 0 9 = 0; name 0 max 0 9 = done; nameOn 0 9 = max
                name 0 max 0 9 = done; nameOn 0 0 = max
                """);
        Sentence.holds("Promise 13: NoSuchElementException", """
                name 0 0 0 9 = NSE; places 1; name 1 0 0 9 = NSE; name -1 0 0 9 = NSE; name 1 -1 0 9 = NSE
                name 1 0 9 0 = NSE; name 1 0 -1 0 = NSE; nameOn 0 5 = NONE
                """);
        Sentence.holds("Promise 13: IllegalArgumentException: a day, from is above to, or n is below 0.", """
                places 1; name 0 5 -1 9 = IAE; name 0 5 0 100001 = IAE; name 0 5 100001 100001 = IAE
                name 0 5 -1 -1 = IAE; nameOn 0 5 = NONE; name 0 6 0 100000 = done; nameOn 0 5 = 6
                """, """
                # from below to, the same, above it
                places 1; name 0 1 6 5 = IAE; nameOn 0 5 = NONE; nameOn 0 6 = NONE; name 0 2 5 5 = done
                name 0 3 3 4 = done; nameOn 0 3 = 3; nameOn 0 4 = 3; nameOn 0 5 = 2; nameOn 0 6 = NONE
                name 0 1 100000 0 = IAE; nameOn 0 0 = NONE
                """, """
                # n
                places 1; name 0 -1 0 9 = IAE; name 0 min 0 9 = IAE; nameOn 0 5 = NONE; name 0 0 0 9 = done
                nameOn 0 5 = 0
                """);
        Sentence.holds("Promise 13: IllegalStateException: there are 40.",
                // 39 are not yet too many; of which place they are is one
                "places 2;" + "name 0 5 0 9;".repeat(39) + """
                name 1 6 0 9 = done; name 1 7 0 9 = ISE; name 0 7 0 9 = ISE; nameOn 1 5 = 6; nameOn 0 5 = 5
                name 2 7 0 9 = NSE; name 1 -1 0 9 = IAE; name 1 7 9 0 = IAE; name 1 7 0 100001 = IAE
                """,
                // refused ones do not count
                "places 1;" + "name 0 -1 0 9 = IAE; name 1 0 0 9 = NSE; name 0 5 0 9;".repeat(40)
                + "name 0 6 0 9 = ISE; nameOn 0 5 = 5");
    }

    private static void nameOn() {
        Sentence.holds("Promise 14: A place's name on a day; NONE.", """
                # the name 0 is a name, and not none; each place has its own
                places 2; nameOn 0 5 = NONE; name 0 0 4 6; nameOn 0 3 = NONE; nameOn 0 4 = 0; nameOn 0 6 = 0
                nameOn 0 7 = NONE; nameOn 1 5 = NONE; name 1 9 0 100000; nameOn 0 5 = 0; nameOn 1 5 = 9
                nameOn 0 3 = NONE
                """, """
                # later ones that do not have the day do not count
                places 1; name 0 1 5 5; name 0 2 6 9; name 0 3 0 4; nameOn 0 5 = 1; nameOn 0 6 = 2; nameOn 0 4 = 3
                nameOn 0 10 = NONE
                """);
        Sentence.holds("Promise 14: NoSuchElementException; IllegalArgumentException: no day.", """
                nameOn 0 0 = NSE; places 1; nameOn 1 0 = NSE; nameOn -1 0 = NSE; nameOn 1 -1 = NSE; nameOn 0 -1 = IAE
                nameOn 0 0 = NONE; nameOn 0 100000 = NONE; nameOn 0 100001 = IAE
                """);
    }

    private static void mark() {
        Sentence.holds("Promise 15: A mark: its number.", """
                # the same again is one more
                mark 0 0 0 0 = 0; mark 0 0 0 0 = 1; mark 5 5 0 0 = 2; mark -10000 10000 10000 -10000 = 3
                """);
        Sentence.holds("Promise 15: IllegalArgumentException: one is no point.", """
                # either point, either of its values
                mark 10001 0 0 0 = IAE; mark 0 10001 0 0 = IAE; mark 0 0 10001 0 = IAE; mark 0 0 0 10001 = IAE
                mark -10001 0 0 0 = IAE; mark 0 -10001 0 0 = IAE; mark 0 0 -10001 0 = IAE; mark 0 0 0 -10001 = IAE
                mark 10000 10000 10000 10000 = 0; mark -10000 -10000 -10000 -10000 = 1
                """);
        Sentence.holds("Promise 15: IllegalStateException: there are twelve.",
                "mark 0 0 0 0;".repeat(11) + "mark 8 0 0 0 = 11; mark 0 8 0 0 = ISE; placed 0 0 0 = ISE",
                "mark 0 0 0 0;".repeat(12) + "mark 10001 0 0 0 = IAE; mark 0 0 0 -10001 = IAE; mark 0 0 0 0 = ISE",
                // refused ones do not count
                "mark 0 0 0 10001 = IAE; mark 0 0 0 0;".repeat(12) + "mark 0 0 0 0 = ISE");
    }

    private static void placed() {
        Sentence.holds("Promise 16: Where a map's point is placed: axis 0 x, 1 y.", """
                mark 0 0 10 -10; mark 8 0 26 -10; mark 0 8 10 -50; placed 0 0 0 = 10; placed 0 0 1 = -10
                placed 3 4 0 = 16; placed 3 4 1 = -30
                """, """
                # to ask changes nothing
                mark 0 0 10 -10; mark 8 0 26 -10; mark 0 8 10 -50; placed 3 4 0 = 16; placed 3 4 1 = -30
                placed 3 4 0 = 16; placed 3 4 1 = -30; mark 1 1 1 1 = 3; placed 3 4 0 = 16
                """);
        Sentence.holds("Promise 16: NoSuchElementException: axis.", """
                # whether or not the point is placed
                placed 0 0 -1 = NSE; placed 0 0 2 = NSE; placed 10001 0 2 = NSE; placed 0 0 0 = ISE; placed 0 0 1 = ISE
                mark 0 0 10 -10; mark 8 0 26 -10; mark 0 8 10 -50; placed 0 0 -1 = NSE; placed 0 0 2 = NSE
                placed 9 9 2 = NSE; placed 0 10001 -1 = NSE; placed 0 0 0 = 10; placed 0 0 1 = -10
                """);
        Sentence.holds("Promise 16: IllegalArgumentException: no point.", """
                # whether or not there are marks
                placed 10001 0 0 = IAE; placed 0 -10001 1 = IAE; placed 10000 -10000 0 = ISE; mark 0 0 10 -10
                mark 8 0 26 -10; mark 0 8 10 -50; placed 10001 0 0 = IAE; placed -10001 0 0 = IAE
                placed 0 10001 0 = IAE; placed 0 -10001 0 = IAE; placed -10000 10000 1 = ISE
                """);
        Sentence.holds("Promise 16: IllegalStateException: no three marks place it.", """
                # none, one, two, three in a line, three beside it, and one more that has it
                placed 4 4 0 = ISE; mark 4 4 5 5; placed 4 4 0 = ISE; mark 8 8 5 5; placed 4 4 0 = ISE; mark 0 0 5 5
                placed 4 4 0 = ISE; mark 8 0 5 5; placed 4 4 0 = 5; placed 3 4 0 = ISE; mark 0 8 5 5; placed 3 4 0 = 5
                """);
    }

    private static void masked() {
        Sentence.holds("Promise 17: The lowest x (axis 0) or y (1) of the cell in which a point lies", """
                masked 7 13 5 0 = 5; masked 7 13 5 1 = 10; masked -7 13 5 0 = -10; masked 7 -13 5 1 = -15
                """);
        Sentence.holds("Promise 17: cells of a size from 0, 0 on, each with its lowest x and y.", """
                # the last of a cell, the first of the next, on both sides of 0
                masked -6 0 5 0 = -10; masked -5 0 5 0 = -5; masked -1 0 5 0 = -5; masked 0 0 5 0 = 0
                masked 4 0 5 0 = 0; masked 5 0 5 0 = 5; masked 9 0 5 0 = 5; masked 10 0 5 0 = 10
                masked 0 -6 5 1 = -10; masked 0 -5 5 1 = -5; masked 0 -1 5 1 = -5; masked 0 0 5 1 = 0
                masked 0 4 5 1 = 0; masked 0 5 5 1 = 5; masked 0 9 5 1 = 5; masked 0 10 5 1 = 10
                """, """
                # a cell may begin before the first point
                masked -10000 0 3 0 = -10002; masked 0 -10000 7 1 = -10003; masked -10000 0 9999 0 = -19998
                masked -9999 0 9999 0 = -9999; masked 10000 0 9999 0 = 9999; masked 0 10000 3 1 = 9999
                """);
        Sentence.holds("Promise 17: NoSuchElementException: axis.", """
                masked 1 2 1 -1 = NSE; masked 1 2 1 0 = 1; masked 1 2 1 1 = 2; masked 1 2 1 2 = NSE
                masked 10001 0 1 2 = NSE; masked 0 0 0 2 = NSE; masked 0 0 10001 -1 = NSE
                """);
        Sentence.holds("Promise 17: IllegalArgumentException: no point, or the size is not 1 .. 10000.", """
                # the size
                masked 7 7 0 0 = IAE; masked 7 7 1 0 = 7; masked 7 7 10000 0 = 0; masked 7 7 10001 0 = IAE
                masked 7 7 -1 0 = IAE; masked 7 7 min 1 = IAE; masked 7 7 max 1 = IAE; masked -1 10000 10000 0 = -10000
                masked -1 10000 10000 1 = 10000; masked -10000 9999 10000 0 = -10000; masked -10000 9999 10000 1 = 0
                """, """
                # the point
                masked 10001 0 5 1 = IAE; masked 0 10001 5 0 = IAE; masked -10001 0 5 1 = IAE
                masked 0 -10001 5 0 = IAE; masked 10000 -10000 5 0 = 10000; masked 10000 -10000 5 1 = -10000
                """);
    }
}
