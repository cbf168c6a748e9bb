/** The sentences of the document's 'What it is' and 'Terms', each with its boundaries. */
public final class TermsTest {
    public static void main(String[] args) {
        calls();
        pointsOfShapes();
        pointsOfMaps();
        days();
        daysOfNames();
        places();
        shapes();
        corners();
        sameCorners();
        linesInCommon();
        linesThatFollow();
        force();
        in();
        unsure();
        misfits();
        names();
        marks();
        firstThreeMarks();
        triangles();
        rounding();
        noSuch();
        exceptionOrder();
        Check.end("TermsTest");
    }

    private static void calls() {
        String start = "place NONE; square 0 0 9 0 0 4;"; // 7 calls
        Sentence.holds("An object is used for at most 512 calls after it has been made",
                start + "force 0 9 = 0;".repeat(504) + "area 0 9 = 32",
                start + "corner 0 1 1 = ISE;".repeat(504) + "area 0 9 = 32",
                start + "placed 0 0 0 = ISE; force 1 0 = NSE; unsure 0 0 = false;".repeat(168) + "threeWay 0 4 4 9 = 2",
                "place NONE = 0; place 0 = 1;" + "misfit 0 0 = NONE;".repeat(509) + "place NONE = 2");
    }

    private static void pointsOfShapes() {
        Sentence.holds("POINTS are x, y of -10000 .. 10000", """
                # corner
                places 1; shape 0 0 9 = 0
                corner 0 -10001 0 = IAE; corner 0 10001 0 = IAE; corner 0 0 -10001 = IAE; corner 0 0 10001 = IAE
                corner 0 min 0 = IAE; corner 0 max 0 = IAE; corner 0 0 min = IAE; corner 0 0 max = IAE
                corner 0 -10000 -10000 = 1; corner 0 10000 -10000 = 2; corner 0 10000 10000 = 3
                corner 0 -10000 10000 = 4; close 0 = true; area 0 0 = 800000000
                """, """
                # inside
                places 1; square 0 0 9 -10000 -10000 20000
                inside -10000 -10000 9 0 = 0; inside 10000 -10000 9 0 = 0; inside 10000 10000 9 0 = 0
                inside -10000 10000 9 0 = 0; inside -10001 0 9 0 = IAE; inside 10001 0 9 0 = IAE
                inside 0 -10001 9 0 = IAE; inside 0 10001 9 0 = IAE; inside min 0 9 0 = IAE
                inside max 0 9 0 = IAE; inside 0 min 9 0 = IAE; inside 0 max 9 0 = IAE
                """, """
                # threeWay
                places 1; square 0 0 9 -10000 -10000 20000
                threeWay 0 -10000 -10000 9 = 2; threeWay 0 10000 -10000 9 = 2; threeWay 0 10000 10000 9 = 2
                threeWay 0 -10000 10000 9 = 2; threeWay 0 -10001 0 9 = IAE; threeWay 0 10001 0 9 = IAE
                threeWay 0 0 -10001 9 = IAE; threeWay 0 0 10001 9 = IAE; threeWay 0 min 0 9 = IAE
                threeWay 0 max 0 9 = IAE; threeWay 0 0 min 9 = IAE; threeWay 0 0 max 9 = IAE
                """);
    }

    private static void pointsOfMaps() {
        Sentence.holds("POINTS are x, y of -10000 .. 10000", """
                # mark, the map's point
                mark -10001 0 0 0 = IAE; mark 10001 0 0 0 = IAE; mark 0 -10001 0 0 = IAE; mark 0 10001 0 0 = IAE
                mark min 0 0 0 = IAE; mark max 0 0 0 = IAE; mark 0 min 0 0 = IAE; mark 0 max 0 0 = IAE
                mark -10000 -10000 1 2 = 0; mark 10000 -10000 3 4 = 1; mark 10000 10000 5 6 = 2
                mark -10000 10000 7 8 = 3; placed -10000 10000 0 = 7; placed -10000 10000 1 = 8
                """, """
                # mark, the point where it lies
                mark 0 0 -10001 0 = IAE; mark 0 0 10001 0 = IAE; mark 0 0 0 -10001 = IAE; mark 0 0 0 10001 = IAE
                mark 0 0 min 0 = IAE; mark 0 0 max 0 = IAE; mark 0 0 0 min = IAE; mark 0 0 0 max = IAE
                mark 0 0 -10000 -10000 = 0; mark 1 0 10000 -10000 = 1; mark 0 1 10000 10000 = 2
                mark 1 1 -10000 10000 = 3; placed 0 0 0 = -10000; placed 0 1 1 = 10000; placed 1 0 0 = 10000
                """, """
                # placed
                mark -10000 -10000 1 2; mark 10000 -10000 3 4; mark 10000 10000 5 6; mark -10000 10000 7 8
                placed -10000 -10000 0 = 1; placed 10000 -10000 1 = 4; placed 10000 10000 0 = 5
                placed -10000 10000 1 = 8; placed -10001 0 0 = IAE; placed 10001 0 0 = IAE
                placed 0 -10001 0 = IAE; placed 0 10001 0 = IAE; placed min 0 1 = IAE; placed max 0 1 = IAE
                placed 0 min 1 = IAE; placed 0 max 1 = IAE
                """, """
                # masked: the value that is not asked for is one of the point all the same
                masked -10000 10000 1 0 = -10000; masked -10000 10000 1 1 = 10000
                masked 10000 -10000 1 0 = 10000; masked 10000 -10000 1 1 = -10000
                masked -10001 0 1 0 = IAE; masked 10001 0 1 0 = IAE; masked 0 -10001 1 0 = IAE
                masked 0 10001 1 0 = IAE; masked -10001 0 1 1 = IAE; masked 10001 0 1 1 = IAE
                masked 0 -10001 1 1 = IAE; masked 0 10001 1 1 = IAE; masked min 0 1 0 = IAE
                masked max 0 1 0 = IAE; masked 0 min 1 1 = IAE; masked 0 max 1 1 = IAE
                """);
    }

    private static void days() {
        Sentence.holds("DAYS 0 .. 100000", """
                # shape
                places 1; shape 0 -1 5 = IAE; shape 0 5 -1 = IAE; shape 0 -1 -1 = IAE; shape 0 100001 100001 = IAE
                shape 0 5 100001 = IAE; shape 0 100001 5 = IAE; shape 0 min max = IAE; shape 0 0 max = IAE
                shape 0 min 0 = IAE; shape 0 0 100000 = 0; shape 0 0 0 = 1; shape 0 100000 100000 = 2
                """, """
                # force
                places 1; square 0 0 100000 0 0 4; force 0 -1 = IAE; force 0 0 = 0; force 0 100000 = 0
                force 0 100001 = IAE; force 0 min = IAE; force 0 max = IAE
                """, """
                # inside
                places 1; square 0 0 100000 0 0 4; inside 4 4 -1 0 = IAE; inside 4 4 0 0 = 0
                inside 4 4 100000 0 = 0; inside 4 4 100001 0 = IAE; inside 4 4 min 0 = IAE; inside 4 4 max 0 = IAE
                """, """
                # threeWay
                places 1; square 0 0 100000 0 0 4; threeWay 0 4 4 -1 = IAE; threeWay 0 4 4 0 = 2
                threeWay 0 4 4 100000 = 2; threeWay 0 4 4 100001 = IAE; threeWay 0 4 4 min = IAE
                threeWay 0 4 4 max = IAE
                """, """
                # area
                places 1; square 0 0 100000 0 0 4; area 0 -1 = IAE; area 0 0 = 32; area 0 100000 = 32
                area 0 100001 = IAE; area 0 min = IAE; area 0 max = IAE
                """, """
                # misfit
                place NONE; place 0; square 0 0 100000 0 0 4; square 1 0 100000 0 0 5; misfit 0 -1 = IAE
                misfit 0 0 = 1; misfit 0 100000 = 1; misfit 0 100001 = IAE; misfit 0 min = IAE; misfit 0 max = IAE
                """, """
                # distance
                places 2; square 0 0 100000 0 0 4; square 1 0 100000 7 8 4; distance 0 1 -1 = IAE
                distance 0 1 0 = 25; distance 0 1 100000 = 25; distance 0 1 100001 = IAE; distance 0 1 min = IAE
                distance 0 1 max = IAE
                """);
    }

    private static void daysOfNames() {
        Sentence.holds("DAYS 0 .. 100000", """
                # name
                places 1; name 0 7 -1 5 = IAE; name 0 7 5 -1 = IAE; name 0 7 -1 -1 = IAE
                name 0 7 100001 100001 = IAE; name 0 7 5 100001 = IAE; name 0 7 100001 5 = IAE
                name 0 7 min max = IAE; name 0 7 0 max = IAE; name 0 7 min 0 = IAE; nameOn 0 5 = NONE
                name 0 1 0 100000 = done; name 0 2 0 0 = done; name 0 3 100000 100000 = done
                nameOn 0 0 = 2; nameOn 0 1 = 1; nameOn 0 99999 = 1; nameOn 0 100000 = 3
                """, """
                # nameOn
                places 1; name 0 1 0 100000; nameOn 0 -1 = IAE; nameOn 0 0 = 1; nameOn 0 100000 = 1
                nameOn 0 100001 = IAE; nameOn 0 min = IAE; nameOn 0 max = IAE
                """);
    }

    private static void places() {
        Sentence.holds("PLACES are 0 .. 15", """
                place NONE = 0; place NONE = 1; place NONE = 2; place NONE = 3; place NONE = 4; place NONE = 5
                place NONE = 6; place NONE = 7; place NONE = 8; place NONE = 9; place NONE = 10; place NONE = 11
                place NONE = 12; place NONE = 13; place NONE = 14; place NONE = 15; place NONE = ISE
                force 15 0 = NONE; force 16 0 = NSE; force 0 0 = NONE; force -1 0 = NSE
                """, """
                # the last one is as good as the first
                places 16; square 15 0 9 0 0 4 = 0; square 0 0 9 7 8 4 = 1; name 15 3 0 9; name 0 4 0 9
                force 15 5 = 0; force 0 5 = 1; area 15 5 = 32; threeWay 15 4 4 5 = 2; inside 4 4 5 0 = 15
                distance 15 0 5 = 25; distance 0 15 5 = 25; nameOn 15 5 = 3; nameOn 0 5 = 4
                """);
        Sentence.holds("each with a PARENT or none", """
                # the same shapes, with a parent and with none
                place NONE; place 0; place NONE; square 0 0 9 0 0 4; square 1 0 9 0 0 5; square 2 0 9 0 0 5
                misfit 0 5 = 1; misfit 1 5 = NONE
                """, """
                # a parent of a parent does not count, nor a parent's other places
                place NONE; place 0; place 1; place 0; square 0 0 9 0 0 4; square 2 0 9 0 0 9; misfit 0 5 = NONE
                square 3 0 9 0 0 2; misfit 0 5 = NONE; square 1 0 9 0 0 3; misfit 0 5 = 2; misfit 1 5 = NONE
                """, """
                # the last place may be a parent of none, the first of the last
                place NONE; place 0; place 0; place 0; place 0; place 0; place 0; place 0; place 0; place 0
                place 0; place 0; place 0; place 0; place 0; place 14 = 15; square 0 0 9 0 0 4
                square 14 0 9 0 0 4; square 15 0 9 0 0 5; misfit 0 5 = 15; place 15 = ISE
                """);
    }

    private static void shapes() {
        Sentence.holds("SHAPES are 0 .. 31, each of a place",
                "places 16;" + numbered("shape 0 0 9 = N;", 32) + """
                shape 0 0 9 = ISE
                corner 31 0 0 = 1; corner 32 0 0 = NSE; corner 0 0 0 = 1; corner -1 0 0 = NSE
                close 31 = false; close 32 = NSE; close 0 = false; close -1 = NSE
                unsure 31 0 = false; unsure 32 0 = NSE; unsure 0 32 = NSE; unsure -1 0 = NSE; unsure 0 -1 = NSE
                """,
                // two of each place, with the last of them in force
                "places 16;" + numbered("square N 0 9 N 0 1 = N;", 16)
                + "square 15 3 3 0 0 2 = 16; force 15 3 = 16; force 14 3 = 14; force 15 4 = 15; area 14 3 = 2",
                // the last number is as good as the first
                "places 2;" + "shape 0 0 9;".repeat(30) + """
                square 1 0 9 0 0 4 = 30; square 1 0 9 0 0 6 = 31; force 1 9 = 31; force 0 9 = NONE; area 1 9 = 72
                unsure 31 30 = true; threeWay 1 5 5 9 = 1; close 31 = false; corner 31 0 0 = ISE
                """);
        Sentence.holds("for days from .. to (both with it)", """
                places 1; square 0 10 20 0 0 4; force 0 9 = NONE; force 0 10 = 0; force 0 20 = 0; force 0 21 = NONE
                """, """
                # one day alone
                places 1; square 0 10 10 0 0 4; force 0 9 = NONE; force 0 10 = 0; force 0 11 = NONE
                """, """
                # the first and the last day of all
                places 1; square 0 0 0 0 0 4; square 0 100000 100000 0 0 4; force 0 0 = 0; force 0 1 = NONE
                force 0 99999 = NONE; force 0 100000 = 1
                """);
    }

    private static String numbered(String text, int times) {
        StringBuilder all = new StringBuilder();
        for (int i = 0; i < times; i++) {
            all.append(text.replaceAll("\\bN\\b", "" + i));
        }
        return all.append('\n').toString();
    }

    private static void corners() {
        Sentence.holds("of 3 .. 12 CORNERS one behind the other", """
                # the least number: two cannot be closed, three can
                places 1; shape 0 0 9; close 0 = false; corner 0 0 0 = 1; close 0 = false; corner 0 4 0 = 2
                close 0 = false; force 0 5 = NONE; corner 0 0 4 = 3; close 0 = true; area 0 5 = 16
                """, """
                # the full number and one more
                places 1; shape 0 0 9; corner 0 0 0 = 1; corner 0 2 0 = 2; corner 0 2 1 = 3; corner 0 4 1 = 4
                corner 0 4 0 = 5; corner 0 6 0 = 6; corner 0 6 3 = 7; corner 0 4 3 = 8; corner 0 4 2 = 9
                corner 0 2 2 = 10; corner 0 2 3 = 11; corner 0 0 3 = 12; corner 0 0 1 = ISE; close 0 = true
                area 0 5 = 28; inside 0 1 5 0 = 0; inside 3 0 5 0 = NONE; inside 3 3 5 0 = NONE
                """, """
                # one behind the other: the same corners in other orders are other shapes
                places 4; ring 0 0 9 0 0 6 0 6 6 3 2 0 6 = 0; area 0 5 = 48; ring 1 0 9 0 0 3 2 6 0 6 6 0 6 = 1
                area 1 5 = 60; ring 2 0 9 0 0 6 0 3 2 6 6 0 6 = 2; area 2 5 = 54
                open 3 0 9 0 0 6 6 6 0 0 6 = 3; close 3 = false
                """);
        Sentence.holds("a line from each corner to the next, and from the last to the first, is its BORDER.", """
                # a point on each line, then one beside each
                places 1; ring 0 0 9 0 0 8 0 8 8 0 8; inside 4 0 5 0 = 0; inside 8 4 5 0 = 0; inside 4 8 5 0 = 0
                inside 0 4 5 0 = 0; inside 4 -1 5 0 = NONE; inside 9 4 5 0 = NONE; inside 4 9 5 0 = NONE
                inside -1 4 5 0 = NONE
                """, """
                # from the last to the first, askew
                places 1; ring 0 0 9 8 0 8 8 0 8; inside 4 4 5 0 = 0; inside 3 4 5 0 = NONE; inside 4 3 5 0 = NONE
                inside 1 7 5 0 = 0; inside 7 1 5 0 = 0; inside 7 0 5 0 = NONE
                """, """
                # the line from the last to the first is one that may not be crossed
                places 1; open 0 0 9 0 0 8 0 8 8 2 8 2 2 4 6 = 0; close 0 = false
                open 0 0 9 0 0 8 0 8 8 2 8 2 2 6 6 = 1; close 1 = false; ring 0 0 9 0 0 8 0 8 8 2 8 2 2 6 5 = 2
                """);
    }

    private static void sameCorners() {
        Sentence.holds("A shape can be closed if no two corners are the same", """
                # one behind the other, the last and the first, and any two, of few corners and of twelve
                places 1; open 0 0 9 0 0 0 0 8 0 8 8 = 0; close 0 = false; open 0 0 9 0 0 8 0 8 8 0 0 = 1
                close 1 = false; open 0 0 9 0 0 4 4 8 0 8 8 4 4 0 8 = 2; close 2 = false; open 0 0 9 0 0 0 0 0 0 = 3
                close 3 = false; open 0 0 9 0 0 8 0 8 0 = 4; close 4 = false
                open 0 0 9 0 0 1 0 2 0 3 0 4 0 5 0 5 1 4 1 3 1 2 1 1 1 0 0 = 5; close 5 = false
                open 0 0 9 0 0 1 0 2 0 3 0 4 0 5 0 5 1 4 1 3 1 2 1 1 1 1 1 = 6; close 6 = false; force 0 5 = NONE
                """, """
                # the same x alone, or the same y, is not the same corner
                places 1; ring 0 0 9 5 5 5 6 6 5 = 0; ring 0 0 9 0 0 1 0 2 0 3 0 4 0 5 0 5 1 4 1 3 1 2 1 1 1 0 1 = 1
                ring 0 0 9 -10000 -10000 -10000 -9999 -9999 -10000 = 2; area 0 5 = 1
                """, """
                # other shapes may have the same corners
                places 2; square 0 0 9 0 0 4 = 0; square 0 0 9 0 0 4 = 1; square 1 0 9 0 0 4 = 2
                """);
    }

    private static void linesInCommon() {
        Sentence.holds("no two lines of its border have a point in common", """
                # they cross: in a whole point, and between whole points
                places 1; open 0 0 9 0 0 4 4 4 0 0 4 = 0; close 0 = false; open 0 0 9 0 0 5 1 5 0 4 1 = 1
                close 1 = false; open 0 0 9 0 0 1 0 0 1 1 1 = 2; close 2 = false; force 0 5 = NONE
                open 0 0 9 -10000 -10000 10000 10000 10000 -10000 -10000 10000 = 3; close 3 = false
                """, """
                # a corner on a line far from it, one just before it, one just behind it
                places 1; ring 0 0 9 0 0 10 0 10 10 5 1 0 10 = 0; open 0 0 9 0 0 10 0 10 10 5 0 0 10 = 1
                close 1 = false; open 0 0 9 0 0 10 0 10 10 5 -1 0 10 = 2; close 2 = false; force 0 5 = 0
                """, """
                # the same corner on the same line, whichever corner is the first
                places 1; open 0 0 9 10 0 10 10 5 0 0 10 0 0 = 0; close 0 = false
                open 0 0 9 10 10 5 0 0 10 0 0 10 0 = 1; close 1 = false
                open 0 0 9 5 0 0 10 0 0 10 0 10 10 = 2; close 2 = false
                open 0 0 9 0 10 0 0 10 0 10 10 5 0 = 3; close 3 = false; ring 0 0 9 5 1 0 10 0 0 10 0 10 10 = 4
                """, """
                # the farthest lines that there are: a corner just off, on, and just over a line
                places 1; ring 0 0 9 -10000 -10000 10000 10000 -10000 10000 -1 0 -10000 -9999 = 0
                open 0 0 9 -10000 -10000 10000 10000 -10000 10000 0 0 -10000 -9999 = 1; close 1 = false
                open 0 0 9 -10000 -10000 10000 10000 -10000 10000 1 0 -10000 -9999 = 2; close 2 = false
                ring 0 0 9 -10000 -10000 10000 9999 9999 9999 = 3
                """, """
                # on one line: apart, with an end in common, one over a part of the other, one within the other
                places 1; ring 0 0 9 0 0 3 0 3 2 5 2 5 0 8 0 8 6 0 6 = 0
                open 0 0 9 0 0 3 0 3 2 5 2 3 0 8 0 8 6 0 6 = 1; close 1 = false
                open 0 0 9 0 0 5 0 5 2 3 2 3 0 8 0 8 6 0 6 = 2; close 2 = false
                open 0 0 9 0 0 8 0 8 6 5 6 5 0 3 0 3 6 0 6 = 3; close 3 = false
                """, """
                # level and upright lines that lie side by side, one step apart
                places 1; ring 0 0 9 0 0 9 0 9 1 1 1 1 2 9 2 9 3 0 3 = 0; area 0 5 = 38
                """);
    }

    private static void linesThatFollow() {
        Sentence.holds("but those that follow one another, their corner alone.", """
                # three corners: each two lines follow one another
                places 1; ring 0 0 9 0 0 4 0 0 4 = 0; open 0 0 9 0 0 4 0 2 0 = 1; close 1 = false
                open 0 0 9 0 0 2 2 4 4 = 2; close 2 = false; open 0 0 9 4 4 0 0 2 2 = 3; close 3 = false
                open 0 0 9 0 0 0 4 0 9 = 4; close 4 = false
                """, """
                # a line that goes back on the one before it: a part of it, more than it
                places 1; open 0 0 9 0 0 6 0 3 0 3 5 = 0; close 0 = false; open 0 0 9 0 0 6 0 -3 0 3 5 = 1
                close 1 = false; ring 0 0 9 0 0 6 0 3 1 3 5 = 2
                """, """
                # the same at the first corner and at the last
                places 1; open 0 0 9 0 0 6 0 3 5 3 0 = 0; close 0 = false; open 0 0 9 6 0 3 0 3 5 0 0 = 1
                close 1 = false; open 0 0 9 3 0 3 5 0 0 6 0 = 2; close 2 = false; ring 0 0 9 0 0 6 0 3 5 3 1 = 3
                """, """
                # a line that goes straight on has the corner alone in common, at any corner
                places 1; ring 0 0 9 0 0 2 0 4 0 4 4 = 0; ring 0 0 9 2 0 4 0 4 4 0 0 = 1
                ring 0 0 9 4 0 4 4 0 0 2 0 = 2; ring 0 0 9 4 4 0 0 2 0 4 0 = 3; ring 0 0 9 0 0 1 1 2 2 3 3 0 3 = 4
                area 0 5 = 9
                """);
    }

    private static void force() {
        Sentence.holds("A closed shape is in FORCE on its days", """
                # before it is closed it is not, and what cannot be closed never is
                places 1; open 0 3 5 0 0 4 0 0 4; force 0 4 = NONE; area 0 4 = 0; inside 1 1 4 0 = NONE
                close 0 = true; force 0 4 = 0; force 0 2 = NONE; force 0 3 = 0; force 0 5 = 0; force 0 6 = NONE
                open 0 3 5 0 0 4 4 4 0 0 4; close 1 = false; force 0 4 = 0
                """);
        Sentence.holds("with the one that was closed later before all others of its place", """
                # the order of closing counts, not that of the numbers
                places 1; open 0 0 9 0 0 1 0 0 1; open 0 0 9 0 0 2 0 0 2; open 0 0 9 0 0 3 0 0 3; close 2 = true
                force 0 5 = 2; close 0 = true; force 0 5 = 0; close 1 = true; force 0 5 = 1; area 0 5 = 4
                """, """
                # to close once more, or to be made unsure, is not to be closed later
                places 1; square 0 0 9 0 0 1; square 0 0 9 0 0 2; close 0 = false; force 0 5 = 1
                unsure 0 1 = true; force 0 5 = 1; unsure 1 0 = true; force 0 5 = 1
                """, """
                # of its place alone, and on its days alone
                places 2; square 0 0 9 0 0 1; square 1 5 5 0 0 2; force 0 5 = 0; force 1 5 = 1; square 0 5 6 0 0 3
                force 0 4 = 0; force 0 5 = 2; force 0 6 = 2; force 0 7 = 0; force 1 5 = 1
                """, """
                # the last of all 32 goes before all the others
                places 1""" + numbered("; square 0 0 9 0 0 1 = N; force 0 5 = N", 32));
        Sentence.holds("a place's shape on a day is that one; none, if there is none such.", """
                # all that asks after a place's shape asks after that one
                place NONE; place 0; square 0 0 9 0 0 4; square 1 0 9 7 8 2; distance 0 1 5 = 25; misfit 0 5 = 1
                square 0 5 5 0 0 10; force 0 5 = 2; area 0 5 = 200; inside 10 10 5 0 = 0; threeWay 0 10 10 5 = 2
                misfit 0 5 = NONE; distance 0 1 5 = 1; area 0 4 = 32; inside 10 10 4 0 = NONE; misfit 0 4 = 1
                threeWay 0 10 10 4 = 0; distance 0 1 4 = 25
                """, """
                # none: without any shape, with an open one, on other days
                places 2; force 0 5 = NONE; area 0 5 = 0; threeWay 0 0 0 5 = NONE; inside 0 0 5 0 = NONE
                distance 0 0 5 = NONE; misfit 0 5 = NONE; open 0 0 9 0 0 4 0 0 4; force 0 5 = NONE; area 0 5 = 0
                threeWay 0 0 0 5 = NONE; inside 0 0 5 0 = NONE; distance 0 0 5 = NONE; close 0 = true
                force 0 10 = NONE; area 0 10 = 0; threeWay 0 0 0 10 = NONE; inside 0 0 10 0 = NONE
                distance 0 0 10 = NONE; force 1 5 = NONE
                """);
    }

    private static void in() {
        Sentence.holds("A point is IN a shape if it is inside or on its border.", """
                # each corner, each line, inside; beside each corner
                places 1; ring 0 0 9 10 10 20 10 20 20 10 20; inside 10 10 5 0 = 0; inside 20 10 5 0 = 0
                inside 20 20 5 0 = 0; inside 10 20 5 0 = 0; inside 15 10 5 0 = 0; inside 20 15 5 0 = 0
                inside 15 20 5 0 = 0; inside 10 15 5 0 = 0; inside 11 11 5 0 = 0; inside 19 19 5 0 = 0
                inside 9 10 5 0 = NONE; inside 10 9 5 0 = NONE; inside 21 10 5 0 = NONE; inside 20 9 5 0 = NONE
                inside 21 20 5 0 = NONE; inside 20 21 5 0 = NONE; inside 9 20 5 0 = NONE; inside 10 21 5 0 = NONE
                inside 9 9 5 0 = NONE; inside 21 21 5 0 = NONE; inside 0 0 5 0 = NONE
                """, """
                # level with a corner, to its left and to its right: peaks up, peaks down, steps
                places 1; ring 0 0 9 0 4 4 0 8 4 4 8; inside -1 4 5 0 = NONE; inside 0 4 5 0 = 0
                inside 4 4 5 0 = 0; inside 9 4 5 0 = NONE; inside 3 0 5 0 = NONE; inside 4 0 5 0 = 0
                inside 5 0 5 0 = NONE; inside 3 8 5 0 = NONE; inside 4 8 5 0 = 0; inside 5 8 5 0 = NONE
                ring 0 6 9 0 0 3 4 6 0 9 4 12 0 12 9 0 9; inside 2 4 6 0 = 0; inside -1 4 6 0 = NONE
                inside 13 4 6 0 = NONE; inside 6 4 6 0 = 0; inside 3 3 6 0 = NONE; inside 6 1 6 0 = 0
                inside 5 1 6 0 = NONE; inside 1 0 6 0 = NONE; inside 7 0 6 0 = NONE; inside 13 0 6 0 = NONE
                """, """
                # in a notch and beside it, level with its lines
                places 1; ring 0 0 9 0 0 9 0 9 6 6 6 6 3 3 3 3 6 0 6; inside 3 5 5 0 = 0; inside 4 5 5 0 = NONE
                inside 5 6 5 0 = NONE; inside 6 5 5 0 = 0; inside 4 3 5 0 = 0; inside 5 4 5 0 = NONE
                inside 2 6 5 0 = 0; inside 7 6 5 0 = 0; inside -1 6 5 0 = NONE; inside 10 6 5 0 = NONE
                inside -1 3 5 0 = NONE; inside 10 3 5 0 = NONE; inside -1 0 5 0 = NONE; inside 10 0 5 0 = NONE
                """, """
                # a step off the longest line there is, on both sides, and on it
                places 2; ring 0 0 9 -10000 -10000 10000 10000 -10000 10000; inside 0 0 5 0 = 0
                inside 1 0 5 0 = NONE; inside 0 1 5 0 = 0; inside 9999 10000 5 0 = 0; inside 10000 9999 5 0 = NONE
                inside -9999 -10000 5 0 = NONE; ring 1 0 9 -10000 -9999 10000 10000 -10000 10000
                inside 9999 9999 5 1 = NONE; inside 9999 10000 5 1 = 1; inside -10000 -10000 5 1 = NONE
                """, """
                # as near to a line as a point can be that is not on it, on both sides and either way round
                places 1; ring 0 1 1 0 0 3 2 0 3; inside 1 1 1 0 = 0; inside 2 1 1 0 = NONE; ring 0 2 2 0 3 3 2 0 0
                inside 1 1 2 0 = 0; inside 2 1 2 0 = NONE; ring 0 3 3 -10000 -10000 9999 9998 -10000 10000
                inside -9999 -9999 3 0 = 0; inside 9998 9997 3 0 = NONE
                ring 0 4 4 9999 9998 -10000 -10000 10000 -10000; inside -9999 -9999 4 0 = NONE; inside 9998 9997 4 0 = 0
                """);
    }

    private static void unsure() {
        Sentence.holds("A shape may be UNSURE with another one of the same place: both closed", """
                # both closed, one, the other, neither
                places 1; square 0 0 9 0 0 4; square 0 0 9 0 0 6; open 0 0 9 0 0 4 0 0 4; open 0 0 9 0 0 4 0 0 4
                unsure 1 2 = false; unsure 2 1 = false; unsure 2 3 = false; threeWay 0 5 5 5 = 2; unsure 1 0 = true
                threeWay 0 5 5 5 = 1; close 2 = true; threeWay 0 5 5 5 = 0; unsure 1 2 = true; threeWay 0 5 5 5 = 1
                """, """
                # the same place: not a parent's, not another's, not with itself
                place NONE; place 0; square 0 0 9 0 0 4; square 1 0 9 0 0 6; unsure 0 1 = false; unsure 1 0 = false
                unsure 0 0 = false; unsure 1 1 = false; threeWay 0 4 4 5 = 2; threeWay 1 5 5 5 = 2
                threeWay 0 5 5 5 = 0
                """);
        Sentence.holds("then a point is for sure in the place if it is in both, perhaps if in one.", """
                # in both, on both borders, in the one, in the other, in neither
                places 1; square 0 0 9 0 0 6; square 0 0 9 4 0 6; unsure 0 1 = true; threeWay 0 5 3 5 = 2
                threeWay 0 4 0 5 = 2; threeWay 0 6 6 5 = 2; threeWay 0 3 3 5 = 1; threeWay 0 7 3 5 = 1
                threeWay 0 0 0 5 = 1; threeWay 0 10 6 5 = 1; threeWay 0 -1 3 5 = 0; threeWay 0 11 3 5 = 0
                threeWay 0 5 7 5 = 0; threeWay 0 5 -1 5 = 0
                """, """
                # two that touch in one point alone
                places 1; square 0 0 9 0 0 4; square 0 0 9 4 4 4; unsure 1 0 = true; threeWay 0 4 4 5 = 2
                threeWay 0 4 3 5 = 1; threeWay 0 5 4 5 = 1; threeWay 0 3 5 5 = 0; threeWay 0 5 3 5 = 0
                """);
    }

    private static void misfits() {
        Sentence.holds("A place MISFITS on a day if it and its parent have shapes on that day", """
                # neither, the place alone, the parent alone, both
                place NONE; place 0; misfit 0 5 = NONE; square 1 3 6 50 50 4; misfit 0 5 = NONE
                square 0 5 8 0 0 4; misfit 0 4 = NONE; misfit 0 5 = 1; misfit 0 6 = 1; misfit 0 7 = NONE
                """, """
                # a parent's open shape is none
                place NONE; place 0; open 0 0 9 0 0 4 0 0 4; square 1 0 9 50 50 4; misfit 0 5 = NONE; close 0 = true
                misfit 0 5 = 1
                """, """
                # a place in none has no parent to have a shape
                places 2; square 0 0 9 0 0 4; square 1 0 9 50 50 4; misfit 0 5 = NONE
                """);
        Sentence.holds("and some corner of its own is not in the parent's.", """
                # on the parent's border on all sides, then each corner a step outside
                place NONE; place 0; square 0 0 9 0 0 6; square 1 0 9 0 0 6; misfit 0 0 = NONE
                ring 1 1 1 3 0 6 3 3 6 0 3; misfit 0 1 = NONE; ring 1 2 2 3 -1 6 3 3 6 0 3; misfit 0 2 = 1
                ring 1 3 3 3 0 7 3 3 6 0 3; misfit 0 3 = 1; ring 1 4 4 3 0 6 3 3 7 0 3; misfit 0 4 = 1
                ring 1 5 5 3 0 6 3 3 6 -1 3; misfit 0 5 = 1
                """, """
                # its own corners count: not its lines, not the parent's corners
                place NONE; place 0; ring 0 0 9 0 0 9 0 9 9 5 1 0 9; ring 1 0 9 1 6 8 6 5 0; misfit 0 5 = NONE
                ring 1 6 6 1 6 8 6 5 2; misfit 0 6 = 1; ring 0 7 7 3 1 5 1 4 2; misfit 0 7 = 1
                """, """
                # the twelfth corner alone
                place NONE; place 0; square 0 0 9 0 0 6; ring 1 0 9 0 0 2 0 2 1 4 1 4 0 6 0 6 3 4 3 4 2 2 2 2 3 0 3
                misfit 0 5 = NONE; ring 1 6 6 0 0 2 0 2 1 4 1 4 0 6 0 6 3 4 3 4 2 2 2 2 3 -1 3; misfit 0 6 = 1
                """);
    }

    private static void names() {
        Sentence.holds("NAMES, at most 40",
                // of one place, of all places, and one more
                "places 1;" + numbered("name 0 N N N = done;", 40) + "name 0 99 50 50 = ISE; nameOn 0 50 = NONE;"
                + numbered("nameOn 0 N = N;", 40),
                "places 16;" + numbered("name N N 0 9 = done;", 16).repeat(2) + numbered("name N 77 5 5 = done;", 8)
                + numbered("name N 99 0 9 = ISE; nameOn N 4 = N;", 16) + "nameOn 7 5 = 77; nameOn 8 5 = 8");
        Sentence.holds("a place has a number as its name for days from .. to", """
                places 2; name 0 7 10 20; nameOn 0 9 = NONE; nameOn 0 10 = 7; nameOn 0 20 = 7; nameOn 0 21 = NONE
                nameOn 1 15 = NONE; name 1 8 15 15; nameOn 1 14 = NONE; nameOn 1 15 = 8; nameOn 1 16 = NONE
                nameOn 0 15 = 7
                """, """
                # the least number and the largest, on the first day and the last; two places of one name
                places 2; name 0 0 0 0; name 0 max 100000 100000; name 1 0 0 100000; nameOn 0 0 = 0; nameOn 0 1 = NONE
                nameOn 0 99999 = NONE; nameOn 0 100000 = max; nameOn 1 0 = 0; nameOn 1 100000 = 0
                """, """
                # a name needs no shape
                places 1; name 0 5 0 9; nameOn 0 5 = 5; force 0 5 = NONE
                """);
        Sentence.holds("told later goes before.", """
                # on the days of both; neither the larger number nor the longer time
                places 1; name 0 9 0 30; name 0 3 10 20; nameOn 0 9 = 9; nameOn 0 10 = 3; nameOn 0 20 = 3
                nameOn 0 21 = 9; name 0 5 0 30; nameOn 0 15 = 5; name 0 9 15 15; nameOn 0 15 = 9; nameOn 0 16 = 5
                """, """
                # the fortieth before the first
                places 1; name 0 1 0 9""" + numbered("; name 0 2 20 20; nameOn 0 5 = 1", 38)
                + "; name 0 3 5 5; nameOn 0 5 = 3; nameOn 0 4 = 1");
    }

    private static void marks() {
        Sentence.holds("MARKS, at most 12, of an old map",
                numbered("mark N 0 N 0 = N;", 12) + "mark 0 9 0 9 = ISE; placed 0 0 0 = ISE",
                // the twelfth is as good as the first
                numbered("mark N 0 N 0 = N;", 11) + """
                placed 0 5 0 = ISE; mark 0 10 0 20 = 11; placed 0 5 0 = 0; placed 0 5 1 = 10; placed 10 0 0 = 10
                mark 0 -10 0 0 = ISE; placed 0 -5 0 = ISE
                """,
                // one map's point may have more marks than one
                numbered("mark 5 5 N N = N;", 12) + "mark 5 5 0 0 = ISE; placed 5 5 0 = ISE");
        Sentence.holds("a point of the map, and the point where it lies.", """
                # each mark lies where it was told to
                mark 0 0 100 -300; mark 10 0 -50 7; mark 0 10 9 9999; placed 0 0 0 = 100; placed 0 0 1 = -300
                placed 10 0 0 = -50; placed 10 0 1 = 7; placed 0 10 0 = 9; placed 0 10 1 = 9999
                """);
    }

    private static void firstThreeMarks() {
        Sentence.holds("the first three marks (by the lowest mark's number, then the next one's, then the third's)", """
                # two marks are not enough, three are
                placed 0 0 0 = ISE; mark 0 0 1 1; placed 0 0 0 = ISE; mark 8 0 1 1; placed 0 0 0 = ISE
                mark 0 8 1 1; placed 0 0 0 = 1
                """, """
                # 0 1 4 before 0 2 3: the next one's number goes before the third's
                mark 0 0 0 0; mark 1 0 10 0; mark 0 8 500 500; mark 3 1 700 -700; placed 2 2 0 = 550
                mark 9 10 90 100; placed 2 2 0 = 20; placed 2 2 1 = 20
                """, """
                # 0 2 3 before 1 2 3, and before 0 3 4: the lowest number goes before all
                mark 0 0 0 0; mark -1 0 500 500; mark 9 -1 90 -10; mark 0 8 0 80; mark 8 0 900 0; placed 2 2 0 = 20
                placed 2 2 1 = 20
                """, """
                # 0 1 2 before 0 1 3: the third's number last
                mark 0 0 0 0; mark 8 0 80 0; mark 0 8 0 80; mark 0 9 0 900; placed 2 2 1 = 20; placed 0 8 1 = 80
                """, """
                # the last two of twelve, when no others have it with the first
                mark 0 0 0 0; mark 0 0 7 7; mark 0 0 7 7; mark 0 0 7 7; mark 0 0 7 7; mark 0 0 7 7; mark 0 0 7 7
                mark 0 0 7 7; mark 0 0 7 7; mark 100 100 900 900; mark 110 100 1100 1000; mark 100 110 1000 1100
                placed 103 104 0 = 1030; placed 103 104 1 = 1040; placed -1 0 0 = ISE; placed 105 106 0 = ISE
                """);
        Sentence.holds("whose map's points are no line", """
                # on one line, level, upright, askew, and in one point: no point of it is placed
                mark 0 0 1 1; mark 4 4 5 5; mark 8 8 9 9; mark 4 4 7 7; placed 4 4 0 = ISE; placed 0 0 0 = ISE
                placed 2 2 0 = ISE
                """, """
                mark 0 0 1 1; mark 4 0 5 5; mark 8 0 9 9; placed 4 0 0 = ISE; placed 2 0 1 = ISE
                """, """
                mark 3 0 1 1; mark 3 4 5 5; mark 3 8 9 9; placed 3 4 0 = ISE; placed 3 2 1 = ISE
                """, """
                mark 3 3 1 1; mark 3 3 1 1; mark 3 3 1 1; placed 3 3 0 = ISE
                """, """
                # as near to a line as can be
                mark -10000 -10000 0 0; mark 10000 9999 20 0; mark 10000 10000 20 10; placed 10000 10000 1 = 10
                placed 10000 9999 1 = 0; placed -10000 -10000 0 = 0; placed 0 0 0 = 10; placed 1 1 0 = 10
                placed 0 -1 0 = ISE; placed 9999 9999 1 = 10; placed 9999 9998 1 = ISE
                """, """
                # three in a line are passed over, also if the point is on it
                mark 0 0 0 0; mark 4 0 40 0; mark 8 0 120 0; mark 0 8 0 80; placed 6 0 0 = 90; placed 4 0 0 = 40
                """, """
                # where they lie may be a line, or one point
                mark 0 0 5 5; mark 8 0 7 7; mark 0 8 9 9; placed 0 8 0 = 9; placed 4 0 0 = 6; placed 4 4 1 = 8
                """, """
                mark 0 0 5 6; mark 8 0 5 6; mark 0 8 5 6; placed 3 3 0 = 5; placed 3 3 1 = 6
                """);
    }

    private static void triangles() {
        Sentence.holds("and have it inside their triangle or on its border", """
                # corners, lines, inside, and a step off each line, with the marks in one order
                mark 0 0 0 0; mark 8 0 80 0; mark 0 8 0 80; placed 0 0 0 = 0; placed 8 0 0 = 80; placed 0 8 1 = 80
                placed 4 0 0 = 40; placed 0 4 1 = 40; placed 4 4 0 = 40; placed 1 1 0 = 10; placed 3 4 1 = 40
                placed 4 -1 0 = ISE; placed -1 4 0 = ISE; placed 5 4 0 = ISE; placed 4 5 1 = ISE
                placed 9 0 0 = ISE; placed 0 9 0 = ISE; placed -1 0 0 = ISE; placed 0 -1 0 = ISE
                """, """
                # and in the other order
                mark 0 0 0 0; mark 0 8 0 80; mark 8 0 80 0; placed 0 0 0 = 0; placed 8 0 0 = 80; placed 0 8 1 = 80
                placed 4 0 0 = 40; placed 0 4 1 = 40; placed 4 4 0 = 40; placed 1 1 0 = 10; placed 3 4 1 = 40
                placed 4 -1 0 = ISE; placed -1 4 0 = ISE; placed 5 4 0 = ISE; placed 4 5 1 = ISE
                placed 9 0 0 = ISE; placed 0 9 0 = ISE; placed -1 0 0 = ISE; placed 0 -1 0 = ISE
                """, """
                # the least triangle has its marks alone
                mark 0 0 7 -7; mark 1 0 8 -7; mark 0 1 7 -8; placed 0 0 0 = 7; placed 0 0 1 = -7; placed 1 0 0 = 8
                placed 1 0 1 = -7; placed 0 1 0 = 7; placed 0 1 1 = -8; placed 1 1 0 = ISE; placed -1 0 0 = ISE
                placed 0 -1 0 = ISE; placed -1 1 0 = ISE; placed 1 -1 0 = ISE; placed 2 0 0 = ISE; placed 0 2 0 = ISE
                """, """
                # and in the other order
                mark 0 0 7 -7; mark 0 1 7 -8; mark 1 0 8 -7; placed 0 0 0 = 7; placed 0 0 1 = -7; placed 1 0 0 = 8
                placed 1 0 1 = -7; placed 0 1 0 = 7; placed 0 1 1 = -8; placed 1 1 0 = ISE; placed -1 0 0 = ISE
                placed 0 -1 0 = ISE; placed -1 1 0 = ISE; placed 1 -1 0 = ISE; placed 2 0 0 = ISE; placed 0 2 0 = ISE
                """, """
                # the farthest: on the long line, and a step off it
                mark -10000 -10000 -10000 -10000; mark 10000 10000 10000 10000; mark -10000 10000 -10000 10000
                placed 0 0 0 = 0; placed 9999 9999 0 = 9999; placed 1 0 0 = ISE; placed 0 1 0 = 0; placed 0 1 1 = 1
                placed 10000 9999 0 = ISE; placed 9999 10000 1 = 10000
                """);
        Sentence.holds("so as these are placed, evenly between", """
                # turned, stretched and mirrored
                mark 0 0 100 100; mark 10 0 100 130; mark 0 10 80 100; placed 5 5 0 = 90; placed 5 5 1 = 115
                placed 2 3 0 = 94; placed 2 3 1 = 106; placed 10 0 1 = 130; placed 0 7 0 = 86
                """, """
                # the middle of three is a third of each
                mark 0 0 30 -30; mark 3 0 60 -60; mark 0 3 90 -90; placed 1 1 0 = 60; placed 1 1 1 = -60
                """);
    }

    private static void rounding() {
        Sentence.holds("(x and y of the exact place rounded to the nearest whole number, halves up)", """
                # halves above 0 and below 0, with the marks in one order
                mark 0 0 0 0; mark 2 0 1 -1; mark 0 2 3 -3; placed 1 0 0 = 1; placed 1 0 1 = 0; placed 0 1 0 = 2
                placed 0 1 1 = -1; placed 1 1 0 = 2; placed 1 1 1 = -2
                """, """
                # and in the other order
                mark 0 0 0 0; mark 0 2 3 -3; mark 2 0 1 -1; placed 1 0 0 = 1; placed 1 0 1 = 0; placed 0 1 0 = 2
                placed 0 1 1 = -1; placed 1 1 0 = 2; placed 1 1 1 = -2
                """, """
                # less than a half, a half and more, of quarters; then thirds
                mark 0 0 0 0; mark 4 0 1 -1; mark 0 4 0 0; placed 1 0 0 = 0; placed 1 0 1 = 0; placed 2 0 0 = 1
                placed 2 0 1 = 0; placed 3 0 0 = 1; placed 3 0 1 = -1
                """, """
                mark 0 0 0 0; mark 3 0 1 -1; mark 0 3 0 0; placed 1 0 0 = 0; placed 1 0 1 = 0; placed 2 0 0 = 1
                placed 2 0 1 = -1; placed 3 0 1 = -1
                """, """
                # a hair below a half, a half, a hair above it, over the longest line
                mark -10000 0 0 0; mark 10000 0 1 -1; mark -10000 1 0 0; placed -1 0 0 = 0; placed -1 0 1 = 0
                placed 0 0 0 = 1; placed 0 0 1 = 0; placed 1 0 0 = 1; placed 1 0 1 = -1
                """, """
                # the same far from 0
                mark -10000 0 9999 -9999; mark 10000 0 10000 -10000; mark -10000 1 9999 -9999; placed -1 0 0 = 9999
                placed -1 0 1 = -9999; placed 0 0 0 = 10000; placed 0 0 1 = -9999; placed 1 0 0 = 10000
                placed 1 0 1 = -10000
                """, """
                # the largest triangle, and values that go from end to end
                mark -10000 -10000 -10000 10000; mark 10000 -10000 10000 -10000; mark -10000 10000 10000 10000
                placed -1 -10000 0 = -1; placed -1 -10000 1 = 1; placed 0 0 0 = 10000; placed 0 0 1 = 0
                placed -10000 1 0 = 1; placed -10000 1 1 = 10000
                """);
    }

    private static void noSuch() {
        Sentence.holds("NoSuchElementException: there is no such place, shape, axis.", """
                # in a new object there is none
                place 0 = NSE; shape 0 0 9 = NSE; corner 0 0 0 = NSE; close 0 = NSE; unsure 0 0 = NSE; force 0 0 = NSE
                threeWay 0 0 0 0 = NSE; area 0 0 = NSE; distance 0 0 0 = NSE; name 0 0 0 0 = NSE; nameOn 0 0 = NSE
                placed 0 0 2 = NSE; masked 0 0 1 2 = NSE
                """, """
                # the first number that is none yet, on both sides
                places 3; place 3 = NSE; place -2 = NSE; shape 3 0 9 = NSE; shape -1 0 9 = NSE; force 3 0 = NSE
                force -1 0 = NSE; threeWay 3 0 0 0 = NSE; threeWay -1 0 0 0 = NSE; area 3 0 = NSE; area -1 0 = NSE
                distance 3 0 0 = NSE; distance 0 3 0 = NSE; distance -1 0 0 = NSE; distance 0 -1 0 = NSE
                name 3 0 0 0 = NSE; name -1 0 0 0 = NSE; nameOn 3 0 = NSE; nameOn -1 0 = NSE
                force 2 0 = NONE; area 2 0 = 0; threeWay 2 0 0 0 = NONE; distance 2 2 0 = NONE; nameOn 2 0 = NONE
                name 2 0 0 0 = done; shape 2 0 9 = 0; place 2 = 3
                """, """
                places 1; square 0 0 9 0 0 1; shape 0 0 9 = 1; corner 2 0 0 = NSE; corner -1 0 0 = NSE; close 2 = NSE
                close -1 = NSE; unsure 2 0 = NSE; unsure 0 2 = NSE; unsure -1 0 = NSE; unsure 0 -1 = NSE
                unsure 2 2 = NSE; unsure -1 -1 = NSE; corner 1 0 0 = 1; close 1 = false; unsure 1 0 = false
                """, """
                # the ends of int
                places 2; place min = NSE; place max = NSE; shape min 0 9 = NSE; shape max 0 9 = NSE
                corner min 0 0 = NSE; corner max 0 0 = NSE; close min = NSE; close max = NSE; unsure min max = NSE
                force min 0 = NSE; force max 0 = NSE; threeWay min 0 0 0 = NSE; threeWay max 0 0 0 = NSE
                area min 0 = NSE; area max 0 = NSE; distance min 0 0 = NSE; distance 0 max 0 = NSE
                name min 0 0 0 = NSE; name max 0 0 0 = NSE; nameOn min 0 = NSE; nameOn max 0 = NSE
                """, """
                # the axis
                mark 0 0 1 2; mark 8 0 1 2; mark 0 8 1 2; placed 0 0 -1 = NSE; placed 0 0 0 = 1; placed 0 0 1 = 2
                placed 0 0 2 = NSE; placed 0 0 min = NSE; placed 0 0 max = NSE; masked 3 4 1 -1 = NSE
                masked 3 4 1 0 = 3; masked 3 4 1 1 = 4; masked 3 4 1 2 = NSE; masked 3 4 1 min = NSE
                masked 3 4 1 max = NSE
                """);
    }

    private static void exceptionOrder() {
        Sentence.holds("IllegalArgumentException, then IllegalStateException, as told.",
                // place and shape, when full
                "places 16;" + "shape 15 0 9;".repeat(32) + """
                place 16 = NSE; place -2 = NSE; place 15 = ISE; place NONE = ISE; shape 16 0 9 = NSE
                shape -1 9 0 = NSE; shape 16 -1 0 = NSE; shape 15 -1 0 = IAE; shape 15 0 100001 = IAE
                shape 15 9 0 = IAE; shape 15 0 9 = ISE; shape 15 0 100000 = ISE; shape 15 9 9 = ISE
                """,
                // corner, when it is closed and when it has twelve
                """
                places 1; square 0 0 9 0 0 4; open 0 0 9 0 0 1 0 2 0 3 0 4 0 5 0 5 1 4 1 3 1 2 1 1 1 0 1
                corner 2 10001 0 = NSE; corner -1 0 -10001 = NSE; corner 0 10001 0 = IAE; corner 0 0 -10001 = IAE
                corner 0 10000 0 = ISE; corner 1 -10001 0 = IAE; corner 1 0 10001 = IAE; corner 1 0 -10000 = ISE
                close 1 = true; corner 1 0 10001 = IAE; corner 1 0 10000 = ISE
                """,
                // what has no such place, or no such k, and no point or day
                """
                places 1; force 1 -1 = NSE; force 0 -1 = IAE; threeWay 1 10001 0 0 = NSE; threeWay 1 0 0 100001 = NSE
                threeWay 0 10001 0 0 = IAE; threeWay 0 0 0 100001 = IAE; area 1 100001 = NSE; area 0 100001 = IAE
                distance 1 0 -1 = NSE; distance 0 1 -1 = NSE; distance 0 0 -1 = IAE; nameOn 1 -1 = NSE
                nameOn 0 -1 = IAE; inside 10001 0 0 -1 = NSE; inside 0 0 -1 -1 = NSE; inside 10001 0 0 0 = IAE
                inside 0 0 -1 0 = IAE; misfit -1 -1 = NSE; misfit -1 100001 = NSE; misfit 0 -1 = IAE
                masked 10001 0 1 2 = NSE; masked 0 0 0 -1 = NSE; masked 10001 0 1 0 = IAE; masked 0 0 0 1 = IAE
                """,
                // name, when there are forty
                "places 2;" + "name 1 5 0 9;".repeat(40) + """
                name 2 -1 0 9 = NSE; name 2 0 9 0 = NSE; name 2 0 0 9 = NSE; name -1 0 -1 0 = NSE
                name 1 -1 0 9 = IAE; name 1 0 9 0 = IAE; name 1 0 -1 0 = IAE; name 1 0 0 100001 = IAE
                name 1 0 0 9 = ISE; name 1 max 0 100000 = ISE
                """,
                // mark, when there are twelve, and placed, when no three of them place a point
                "mark 5 5 5 5;".repeat(12) + """
                mark 10001 0 0 0 = IAE; mark 0 -10001 0 0 = IAE; mark 0 0 10001 0 = IAE; mark 0 0 0 -10001 = IAE
                mark 10000 -10000 10000 -10000 = ISE; placed 5 5 2 = NSE; placed 10001 5 2 = NSE
                placed 5 10001 -1 = NSE; placed 10001 5 0 = IAE; placed 5 -10001 1 = IAE; placed 5 5 0 = ISE
                """);
    }
}
