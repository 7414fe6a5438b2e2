/** Edges of promises 6, 9, 10 and 13: which colours are told, how many a run has, whose they are. */
public final class ColourEdgesTest {
    private static final Check CHECK = new Check();
    private static final int MOST = Integer.MAX_VALUE;
    private static final int LEAST = Integer.MIN_VALUE;

    public static void main(String[] args) {
        promise6NoneAtFirst();
        promise6From0To3OrNone();
        promise6ColourThatIsNone();
        promise6AnswersWhatItWasTold();
        promise6IndexComesBeforeArgument();
        promise6ToldColourIsTheWholePart();
        promise6TwoToldToOnePart();
        promise6StitchPartsTwoTold();
        promise6TakenBack();
        promise9From2To4Colours();
        promise9ColoursTooFewOrTooMany();
        promise9AsManyColoursAsParts();
        promise9ToldTheLastColourAndOneMore();
        promise9NearPartsToldTheSame();
        promise9NothingToColour();
        promise10NoneBeforeARun();
        promise10NoneUnlessItIs();
        promise10LatestRunAlone();
        promise10BoxThatIsNone();
        promise13From0To3();
        promise13ColourThatIsNone();
        promise13ZeroUnlessItIs();
        promise13SumsOfAllBoxes();
        promise13LargestSum();
        CHECK.end();
    }

    /** Promise 6: a box is told nothing at first. */
    private static void promise6NoneAtFirst() {
        MaskParts x = Scenes.full();
        for (int shape = 0; shape < 10; shape++) {
            for (int box = 0; box < 4; box++) {
                int s = shape;
                int b = box;
                CHECK.answers("6: at first, " + s + " " + b, -1, () -> x.pre(s, b, MaskParts.NONE));
            }
        }
    }

    /** Promise 6: "a colour 0 .. 3, or NONE". */
    private static void promise6From0To3OrNone() {
        for (int colour = -1; colour <= 3; colour++) {
            int c = colour;
            MaskParts x = Scenes.dots(1, 0, 0);
            CHECK.answers("6: told " + c, -1, () -> x.pre(0, 0, c));
            CHECK.answers("6: run with " + c, 0, () -> x.run(4, 10));
            CHECK.same("6: it has " + c, Math.max(0, c), x.colour(0, 0));
            CHECK.answers("6: it was " + c, c, () -> x.pre(0, 0, 0));
        }
    }

    /** "another number is none that is told". */
    private static void promise6ColourThatIsNone() {
        MaskParts x = Scenes.dots(1, 0, 0);
        x.pre(0, 0, 2);
        for (int wrong : new int[] {-2, -3, 4, 5, 32, MOST, LEAST}) {
            CHECK.noArgument("6: colour " + wrong, () -> x.pre(0, 0, wrong));
        }
        CHECK.answers("6: it stays", 2, () -> x.pre(0, 0, 2));
    }

    /** Promise 6: "what it was told". */
    private static void promise6AnswersWhatItWasTold() {
        MaskParts x = Scenes.dots(1, 0, 0, 9, 9);
        x.box(0, 5, 0, 6, 1);
        int before = -1;
        for (int c : new int[] {3, 3, 0, -1, -1, 1, 2, -1}) {
            CHECK.answers("6: before " + c, before, () -> x.pre(0, 1, c));
            before = c;
        }
        CHECK.answers("6: the same part's other box", -1, () -> x.pre(0, 0, 1));
        CHECK.answers("6: the other shape's box", -1, () -> x.pre(1, 0, 1));
    }

    /** "Of several the first one that a call names". */
    private static void promise6IndexComesBeforeArgument() {
        MaskParts x = Scenes.dots(1, 0, 0);
        CHECK.noIndex("6: no shape 1, no colour 4", () -> x.pre(1, 0, 4));
        CHECK.noIndex("6: no shape -1, no colour -2", () -> x.pre(-1, 0, -2));
        CHECK.noIndex("6: no box 1, no colour 4", () -> x.pre(0, 1, 4));
        CHECK.noIndex("6: no box -1, no colour -2", () -> x.pre(0, -1, -2));
    }

    /** Terms: "a box that is told a colour has it", first, between or last in its part. */
    private static void promise6ToldColourIsTheWholePart() {
        for (int toldBox = 0; toldBox < 4; toldBox++) {
            MaskParts x = Scenes.shapes(2);
            for (int i = 0; i < 4; i++) {
                x.box(0, 100 * i, 0, 100 * i + 1, 1);
            }
            x.box(1, 0, 100, 1, 101);
            x.pre(0, toldBox, 3);
            CHECK.answers("6: told by box " + toldBox, 0, () -> x.run(4, 100));
            for (int box = 0; box < 4; box++) {
                CHECK.same("6: told by " + toldBox + ", box " + box, 3, x.colour(0, box));
            }
            CHECK.same("6: another part is free", 0, x.colour(1, 0));
        }
    }

    /** Terms: "no box of the part is told another one": two in one part bar all. */
    private static void promise6TwoToldToOnePart() {
        MaskParts x = Scenes.shapes(1);
        x.box(0, 0, 0, 1, 1);
        x.box(0, 9, 0, 10, 1);
        x.pre(0, 0, 1);
        x.pre(0, 1, 1);
        CHECK.answers("6: the same twice", 0, () -> x.run(2, 100));
        x.pre(0, 1, 0);
        for (int colours = 2; colours <= 4; colours++) {
            int c = colours;
            CHECK.answers("6: different ones, " + c, 1, () -> x.run(c, 100));
            CHECK.same("6: each colour was tried once", c, x.steps());
        }
    }

    /** A stitch between two told boxes makes parts of them. */
    private static void promise6StitchPartsTwoTold() {
        MaskParts x = Scenes.shapes(1);
        x.box(0, 0, 0, 1, 1);
        x.box(0, 9, 0, 10, 1);
        x.pre(0, 0, 1);
        x.pre(0, 1, 0);
        x.stitch(0, 0, true);
        CHECK.answers("6: with a stitch", 0, () -> x.run(2, 100));
        CHECK.same("6: it is used", 1, x.used());
        CHECK.same("6: box 0", 1, x.colour(0, 0));
        CHECK.same("6: box 1", 0, x.colour(0, 1));
    }

    /** Promise 6: told NONE, a box has any colour. */
    private static void promise6TakenBack() {
        MaskParts x = Scenes.dots(1, 0, 0);
        x.pre(0, 0, 3);
        CHECK.answers("6: told 3", 1, () -> x.run(2, 10));
        x.pre(0, 0, MaskParts.NONE);
        CHECK.answers("6: told NONE", 0, () -> x.run(2, 10));
        CHECK.same("6: the first colour", 0, x.colour(0, 0));
    }

    /** Promise 9: "with 2 .. 4 colours". */
    private static void promise9From2To4Colours() {
        for (int colours = 2; colours <= 4; colours++) {
            int c = colours;
            CHECK.answers("9: colours " + c, 0, () -> Scenes.dots(1, 0, 0).run(c, 1));
        }
    }

    /** "another number is none that is told". */
    private static void promise9ColoursTooFewOrTooMany() {
        MaskParts x = Scenes.dots(1, 0, 0);
        for (int wrong : new int[] {1, 0, -1, -2, 5, 6, MOST, LEAST}) {
            CHECK.noArgument("9: colours " + wrong, () -> x.run(wrong, 100));
            CHECK.noArgument("9: colours " + wrong + " and steps", () -> x.run(wrong, 20001));
            CHECK.noArgument("9: nothing there, colours " + wrong, () -> new MaskParts().run(wrong, 0));
        }
    }

    /** Parts that are all near to each other need a colour each. */
    private static void promise9AsManyColoursAsParts() {
        for (int parts = 1; parts <= 6; parts++) {
            for (int colours = 2; colours <= 4; colours++) {
                MaskParts x = Scenes.dots(1, new int[2 * parts]);
                int c = colours;
                boolean can = parts <= colours;
                CHECK.answers("9: " + parts + " with " + c, can ? 0 : 1, () -> x.run(c, 20000));
                for (int part = 0; part < parts; part++) {
                    CHECK.same("9: " + parts + " with " + c + ", part " + part, can ? part : -1, x.colour(part, 0));
                }
            }
        }
    }

    /** Terms: "a colour 0 .. c - 1": a told one that is not among them bars the run. */
    private static void promise9ToldTheLastColourAndOneMore() {
        for (int colours = 2; colours <= 4; colours++) {
            int c = colours;
            MaskParts x = Scenes.dots(1, 0, 0);
            x.pre(0, 0, c - 1);
            CHECK.answers("9: told the last of " + c, 0, () -> x.run(c, 100));
            CHECK.same("9: it has the last of " + c, c - 1, x.colour(0, 0));
            CHECK.same("9: steps up to the last of " + c, c, x.steps());
            if (c < 4) {
                x.pre(0, 0, c);
                CHECK.answers("9: told one more than " + c, 1, () -> x.run(c, 100));
                CHECK.same("9: all of " + c + " are tried", c, x.steps());
            }
        }
    }

    /** Terms: "near ones have different ones". */
    private static void promise9NearPartsToldTheSame() {
        MaskParts near = Scenes.dots(5, 0, 0, 5, 0);
        near.pre(0, 0, 1);
        near.pre(1, 0, 1);
        CHECK.answers("9: just under the distance", 1, () -> near.run(4, 100));
        MaskParts far = Scenes.dots(4, 0, 0, 5, 0);
        far.pre(0, 0, 1);
        far.pre(1, 0, 1);
        CHECK.answers("9: just at the distance", 0, () -> far.run(4, 100));
    }

    /** No part asks for a colour: "0 it is", without a step. */
    private static void promise9NothingToColour() {
        for (int shapes = 0; shapes <= 10; shapes += 5) {
            MaskParts x = Scenes.shapes(shapes);
            for (int colours = 2; colours <= 4; colours++) {
                int c = colours;
                CHECK.answers("9: no parts, " + c, 0, () -> x.run(c, 0));
                CHECK.answers("9: no parts, many steps", 0, () -> x.run(c, 20000));
                CHECK.same("12: no parts", 0, x.steps());
                CHECK.same("11: no parts", 0, x.used());
                CHECK.same("13: no parts", 0, x.area(0));
            }
        }
    }

    /** Promise 10: "else NONE". */
    private static void promise10NoneBeforeARun() {
        MaskParts x = Scenes.dots(1, 0, 0);
        CHECK.same("10: before a run", -1, x.colour(0, 0));
        x.pre(0, 0, 2);
        CHECK.same("10: told is not coloured", -1, x.colour(0, 0));
    }

    /** Promise 10: "if that answered 0; else NONE". */
    private static void promise10NoneUnlessItIs() {
        MaskParts x = Scenes.triangle();
        CHECK.answers("10: it cannot be", 1, () -> x.run(2, 100));
        for (int shape = 0; shape < 3; shape++) {
            CHECK.same("10: it cannot be, " + shape, -1, x.colour(shape, 0));
        }
        CHECK.answers("10: spent", 2, () -> x.run(3, 5));
        for (int shape = 0; shape < 3; shape++) {
            CHECK.same("10: spent, " + shape, -1, x.colour(shape, 0));
        }
        CHECK.answers("10: it is", 0, () -> x.run(3, 6));
        for (int shape = 0; shape < 3; shape++) {
            CHECK.same("10: it is, " + shape, shape, x.colour(shape, 0));
        }
    }

    /** Promise 10: "by the latest run()". */
    private static void promise10LatestRunAlone() {
        MaskParts x = Scenes.triangle();
        x.pre(0, 0, 1);
        x.run(3, 100);
        CHECK.same("10: part 1", 0, x.colour(1, 0));
        x.run(2, 100);
        CHECK.same("10: a later run could not", -1, x.colour(1, 0));
        x.run(4, 100);
        CHECK.same("10: a later one could", 0, x.colour(1, 0));
        x.run(4, 0);
        CHECK.same("10: a later one is spent", -1, x.colour(1, 0));
        x.run(3, 100);
        CHECK.noArgument("10: a refused one", () -> x.run(5, 100));
        CHECK.same("10: is none", 0, x.colour(1, 0));
    }

    /** "there is no such shape, box": coloured or not. */
    private static void promise10BoxThatIsNone() {
        MaskParts x = Scenes.triangle();
        x.shape();
        int[][] wrong = {{-1, 0}, {4, 0}, {3, 0}, {0, -1}, {0, 1}, {MOST, 0}, {0, LEAST}, {1 << 30, 0}};
        for (int turn = 0; turn < 2; turn++) {
            for (int[] w : wrong) {
                CHECK.noIndex("10: colour " + w[0] + " " + w[1], () -> x.colour(w[0], w[1]));
            }
            x.run(3, 100);
        }
    }

    /** Promise 13: "a colour 0 .. 3", however many colours the run had. */
    private static void promise13From0To3() {
        MaskParts x = Scenes.dots(1, 0, 0, 0, 0, 0, 0, 0, 0);
        x.box(3, 0, 0, 2, 2);
        x.run(4, 100);
        long[] due = {1, 1, 1, 5};
        for (int colour = 0; colour <= 3; colour++) {
            CHECK.same("13: area " + colour, due[colour], x.area(colour));
        }
        MaskParts y = Scenes.dots(1, 0, 0);
        y.run(2, 100);
        for (int colour = 1; colour <= 3; colour++) {
            CHECK.same("13: nothing has " + colour, 0, y.area(colour));
        }
    }

    /** "another number is none that is told": coloured or not. */
    private static void promise13ColourThatIsNone() {
        MaskParts x = Scenes.dots(1, 0, 0);
        for (int turn = 0; turn < 2; turn++) {
            for (int wrong : new int[] {-1, -2, 4, 5, MOST, LEAST}) {
                CHECK.noArgument("13: area " + wrong, () -> x.area(wrong));
            }
            x.run(2, 100);
        }
        CHECK.noArgument("13: NONE is no colour here", () -> x.area(MaskParts.NONE));
    }

    /** Promise 13: "if that answered 0; else 0". */
    private static void promise13ZeroUnlessItIs() {
        MaskParts x = Scenes.triangle();
        CHECK.same("13: before a run", 0, x.area(0));
        x.run(3, 100);
        CHECK.same("13: it is", 1, x.area(0));
        x.run(2, 100);
        CHECK.same("13: it cannot be", 0, x.area(0));
        CHECK.same("13: it cannot be, 1", 0, x.area(1));
        x.run(3, 100);
        x.run(3, 5);
        CHECK.same("13: spent", 0, x.area(0));
        CHECK.same("13: spent, 1", 0, x.area(1));
    }

    /** Promise 13: "of all boxes of a colour". */
    private static void promise13SumsOfAllBoxes() {
        MaskParts x = Scenes.shapes(3);
        x.distance(1);
        x.box(0, 0, 0, 2, 3);
        x.box(0, 0, 0, 2, 3);
        x.box(1, 100, 0, 105, 7);
        x.box(2, 100, 0, 111, 1);
        x.box(2, -20, -30, -10, -10);
        x.run(2, 100);
        CHECK.same("13: of shapes 0 and 1", 6 + 6 + 35, x.area(0));
        CHECK.same("13: of shape 2", 11 + 200, x.area(1));
    }

    /** Four times the largest box. */
    private static void promise13LargestSum() {
        MaskParts x = Scenes.shapes(2);
        for (int i = 0; i < 4; i++) {
            x.box(0, -10000, -10000, 10000, 10000);
            x.box(1, -10000, -10000, 10000, 10000);
        }
        x.run(2, 100);
        CHECK.same("13: largest", 1600000000L, x.area(0));
        CHECK.same("13: largest of 1", 1600000000L, x.area(1));
    }
}
