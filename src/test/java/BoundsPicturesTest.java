import java.math.BigInteger;

/** 'Terms' 1 and promises 1 to 9: each sentence that names a bound, an edge or a refusal has a test of its own. */
public final class BoundsPicturesTest {
    private static final int MOST = State.MOST;
    private static final int LEAST = State.LEAST;
    private static final long LOST = CutOnce.LOST;

    public static void main(String[] args) {
        Sentences.holdAll(BoundsPicturesTest.class);
    }

    // ---- Terms 1

    static void terms_1_PICTURE_1to5Each(Check check) {
        CutOnce x = new CutOnce();
        for (int w = 1; w <= 5; w++) {
            for (int h = 1; h <= 5; h++) {
                int sides = (w - 1) * h + w * (h - 1);
                check.due("picture(" + w + ", " + h + ")", x.picture(w, h), sides);
                check.due(w + " by " + h + ": told(2)", x.told(2), w * h);
            }
        }
    }

    static void terms_1_PICTURE_1by1AtFirst(Check check) {
        CutOnce x = new CutOnce();
        check.due("told(0)", x.told(0), 1);
        check.due("told(1)", x.told(1), 1);
    }

    static void terms_1_PIECES_areNumberedByWyAndX(Check check) {
        // the piece below (x, y) is w more, the piece to the right 1 more; behind a row's end there is none to the right
        for (int w = 1; w <= 5; w++) {
            for (int h = 1; h <= 5; h++) {
                CutOnce x = State.picture(w, h);
                for (int p = 0; p < w * h; p++) {
                    boolean last = p % w == w - 1;
                    check.due(w + " by " + h + ": sideOf(" + p + ", 1) is none", x.sideOf(p, 1) == CutOnce.NONE ? 1 : 0, last ? 1 : 0);
                    if (!last) {
                        check.due(w + " by " + h + ": the side to the right of " + p, x.sideOf(p + 1, 3), x.sideOf(p, 1));
                    }
                    if (p + w < w * h) {
                        check.due(w + " by " + h + ": the side below " + p, x.sideOf(p + w, 0), x.sideOf(p, 2));
                    }
                }
            }
        }
    }

    static void terms_1_SIDES_firstThoseToTheRightThenThoseBelowByYThenX(Check check) {
        for (int w = 1; w <= 5; w++) {
            for (int h = 1; h <= 5; h++) {
                CutOnce x = State.picture(w, h);
                int side = 0;
                for (int y = 0; y < h; y++) {
                    for (int at = 0; at + 1 < w; at++) {
                        check.due(w + " by " + h + ": sideOf(" + (w * y + at) + ", 1)", x.sideOf(w * y + at, 1), side++);
                    }
                }
                for (int y = 0; y + 1 < h; y++) {
                    for (int at = 0; at < w; at++) {
                        check.due(w + " by " + h + ": sideOf(" + (w * y + at) + ", 2)", x.sideOf(w * y + at, 2), side++);
                    }
                }
                check.due(w + " by " + h + ": told(3)", x.told(3), side);
            }
        }
    }

    static void terms_1_HEIGHTS_all0AtFirst(Check check) {
        CutOnce x = State.picture(5, 5);
        for (int side = 0; side < 40; side++) {
            for (int i = 0; i < 5; i++) {
                check.due("height(" + side + ", " + i + ")", x.height(side, i), 0);
            }
        }
    }

    static void terms_1_HEIGHTS_leastMinus9(Check check) {
        CutOnce x = State.picture(2, 1);
        check.due("bend(0, 0, -9)", x.bend(0, 0, -9), 0);
        check.due("height(0, 0)", x.height(0, 0), -9);
        check.due("bend(0, 0, -10)", x.bend(0, 0, -10), LOST);
        check.due("height(0, 0)", x.height(0, 0), -9);
    }

    static void terms_1_HEIGHTS_greatest9(Check check) {
        CutOnce x = State.picture(2, 1);
        check.due("bend(0, 4, 9)", x.bend(0, 4, 9), 0);
        check.due("height(0, 4)", x.height(0, 4), 9);
        check.due("bend(0, 4, 10)", x.bend(0, 4, 10), LOST);
        check.due("height(0, 4)", x.height(0, 4), 9);
    }

    static void terms_1_EDGES_fourAboveRightBelowLeft(Check check) {
        CutOnce x = State.picture(3, 3);
        int[] around = {7, 3, 10, 2};
        for (int e = 0; e < 4; e++) {
            check.due("sideOf(4, " + e + ")", x.sideOf(4, e), around[e]);
        }
    }

    static void terms_1_EDGES_FLATAtThePicturesBorderThereAndThereAlone(Check check) {
        for (int w = 1; w <= 5; w++) {
            for (int h = 1; h <= 5; h++) {
                CutOnce x = State.picture(w, h);
                for (int p = 0; p < w * h; p++) {
                    boolean[] border = {p < w, p % w == w - 1, p >= w * h - w, p % w == 0};
                    for (int e = 0; e < 4; e++) {
                        String call = w + " by " + h + ": edge(" + p + ", " + e + ", 0)";
                        check.due(call, x.edge(p, e, 0), border[e] ? LOST : 0);
                    }
                }
            }
        }
    }

    static void terms_1_EDGES_ofThePieceOfLessNumberTheShapeAsItIs(Check check) {
        CutOnce x = State.picture(2, 2);
        State.bend(x, 0, 1, 2, 3, 4, 5);
        State.bend(x, 3, -9, -7, 0, 7, 9);
        int[] below = {-9, -7, 0, 7, 9};
        for (int i = 0; i < 5; i++) {
            check.due("to the right: edge(0, 1, " + i + ")", x.edge(0, 1, i), i + 1);
            check.due("below: edge(1, 2, " + i + ")", x.edge(1, 2, i), below[i]);
        }
    }

    static void terms_1_EDGES_ofTheOtherPieceTheOtherWayRoundEachItsContrary(Check check) {
        CutOnce x = State.picture(2, 2);
        State.bend(x, 0, 1, 2, 3, 4, 5);
        State.bend(x, 3, -9, -7, 0, 7, 8);
        int[] above = {-8, -7, 0, 7, 9};
        for (int i = 0; i < 5; i++) {
            check.due("to the left: edge(1, 3, " + i + ")", x.edge(1, 3, i), i - 5);
            check.due("above: edge(3, 0, " + i + ")", x.edge(3, 0, i), above[i]);
        }
    }

    static void terms_1_FIT_theOtherWayRoundEachItsContrary(Check check) {
        // 1 2 3 4 5 at the right of 0 and -5 .. -1 at the right of 2
        CutOnce x = State.picture(2, 2);
        State.bend(x, 0, 1, 2, 3, 4, 5);
        State.bend(x, 1, -5, -4, -3, -2, -1);
        check.due("far(0, 1, 2, 1)", x.far(0, 1, 2, 1), 0);
        State.bend(x, 1, -1, -2, -3, -4, -5);
        check.due("each its contrary alone: far(0, 1, 2, 1)", x.far(0, 1, 2, 1), 4 + 2 + 0 + 2 + 4);
        State.bend(x, 1, 5, 4, 3, 2, 1);
        check.due("the other way round alone: far(0, 1, 2, 1)", x.far(0, 1, 2, 1), 2 * (1 + 2 + 3 + 4 + 5));
    }

    static void terms_1_FIT_edgesOfOneSideAlways(Check check) {
        CutOnce x = State.made(5, 5, 77);
        for (int p = 0; p < 25; p++) {
            if (x.sideOf(p, 1) >= 0) {
                check.due("far(" + p + ", 1, " + (p + 1) + ", 3)", x.far(p, 1, p + 1, 3), 0);
            }
            if (x.sideOf(p, 2) >= 0) {
                check.due("far(" + p + ", 2, " + (p + 5) + ", 0)", x.far(p, 2, p + 5, 0), 0);
            }
        }
    }

    static void terms_1_FAR_theSumOfTheSizesOfWhatTheyMakeTogether(Check check) {
        CutOnce x = State.picture(2, 2);
        State.bend(x, 0, 3, -3, 0, 9, -9);
        State.bend(x, 1, 9, 1, -1, 2, -4);
        // 3 -3 0 9 -9 and -4 2 -1 1 9: -1 -1 -1 10 0
        check.due("far(0, 1, 2, 1)", x.far(0, 1, 2, 1), 13);
    }

    static void terms_1_FAR_least0Greatest90(Check check) {
        CutOnce x = State.picture(2, 2);
        State.bend(x, 0, 9, 9, 9, 9, 9);
        State.bend(x, 1, 9, 9, 9, 9, 9);
        check.due("9 and 9: far(0, 1, 2, 1)", x.far(0, 1, 2, 1), 90);
        check.due("-9 and -9: far(1, 3, 3, 3)", x.far(1, 3, 3, 3), 90);
        check.due("9 and -9: far(0, 1, 3, 3)", x.far(0, 1, 3, 3), 0);
    }

    /** The first HEIGHT that a DRAW makes. */
    private static void firstHeight(Check check, long draw, int want) {
        CutOnce x = State.made(2, 1, Draws.seedFor(draw));
        check.due("made by the draw " + draw + ": height(0, 0)", x.height(0, 0), want);
    }

    static void terms_1_THENUMBER_itsLower31BitsAlone(Check check) {
        firstHeight(check, 0x7FFFFFFFL, 524287 % 19 - 9);
        firstHeight(check, 0x80000000L, -9);
        firstHeight(check, 0xFFFFFFFFL, 524287 % 19 - 9);
        firstHeight(check, 0x100000000L, -9);
        firstHeight(check, -1L, 524287 % 19 - 9);
        firstHeight(check, Long.MIN_VALUE, -9);
        firstHeight(check, Long.MAX_VALUE, 524287 % 19 - 9);
    }

    static void terms_1_THENUMBER_by4096Cut(Check check) {
        firstHeight(check, 0, -9);
        firstHeight(check, 4095, -9);
        firstHeight(check, 4096, -8);
        firstHeight(check, 8191, -8);
        firstHeight(check, 8192, -7);
    }

    static void terms_1_THENUMBER_whatThatLeavesAsARest(Check check) {
        firstHeight(check, 4096 * 18L, 9);
        firstHeight(check, 4096 * 19L, -9);
        firstHeight(check, 4096 * 20L, -8);
        firstHeight(check, 4096 * 37L, 9);
        firstHeight(check, 4096 * 38L, -9);
    }

    static void terms_1_THEDRAW_goesRound(Check check) {
        // times 6364136223846793005 and 1442695040888963407, the lower 64 bits of it
        for (long draw : new long[] {0, 1, -1, Long.MAX_VALUE, Long.MIN_VALUE, 3, 1L << 33}) {
            long seed = Draws.seedFor(draw);
            CutOnce x = State.made(2, 1, seed);
            BigInteger round = BigInteger.valueOf(draw).multiply(new BigInteger("6364136223846793005"))
                .add(new BigInteger("1442695040888963407")).mod(BigInteger.TWO.pow(31));
            int due = round.intValueExact() / 4096 % 19 - 9;
            check.due("behind the draw " + draw + ": height(0, 1)", x.height(0, 1), due);
        }
        // a seed that goes round at its first time already
        check.due("make(most): height(0, 0)", State.made(2, 1, Long.MAX_VALUE).height(0, 0),
            PlainCutOnce.numberBelow(Draws.drawAt(Long.MAX_VALUE, 1), 19) - 9);
        check.due("make(least): height(0, 0)", State.made(2, 1, Long.MIN_VALUE).height(0, 0),
            PlainCutOnce.numberBelow(Draws.drawAt(Long.MIN_VALUE, 1), 19) - 9);
    }

    static void terms_1_THEDRAW_isTheSeedAtFirstAndIsNotUsedAsThat(Check check) {
        // the seed 0 itself would make -9; what THE DRAW becomes of it makes another height
        int due = (int) (1442695040888963407L & 0x7FFFFFFF) / 4096 % 19 - 9;
        check.due("make(0): height(0, 0)", State.made(2, 1, 0).height(0, 0), due);
        check.holds("it is none but -9", due != -9);
    }

    static void terms_1_MAKING_heightsFromTheFirstToTheFifthBySidesByNumber(Check check) {
        CutOnce x = State.made(5, 5, 99);
        int time = 0;
        for (int side = 0; side < 40; side++) {
            for (int i = 0; i < 5; i++) {
                long due = PlainCutOnce.numberBelow(Draws.drawAt(99, ++time), 19) - 9;
                check.due("height(" + side + ", " + i + ")", x.height(side, i), due);
            }
        }
    }

    // ---- 1 a new object

    static void promise01_newObject_aPICTUREOf1By1(Check check) {
        CutOnce x = new CutOnce();
        check.due("told(0)", x.told(0), 1);
        check.due("told(1)", x.told(1), 1);
        check.due("told(2)", x.told(2), 1);
        for (int e = 0; e < 4; e++) {
            check.due("sideOf(0, " + e + ")", x.sideOf(0, e), CutOnce.NONE);
        }
        check.due("sideOf(1, 0)", x.sideOf(1, 0), CutOnce.UNKNOWN);
    }

    static void promise01_newObject_noSIDES(Check check) {
        CutOnce x = new CutOnce();
        check.due("told(3)", x.told(3), 0);
        check.due("height(0, 0)", x.height(0, 0), LOST);
        check.due("bend(0, 0, 0)", x.bend(0, 0, 0), LOST);
        check.due("kind(0)", x.kind(0), CutOnce.UNKNOWN);
        check.due("tell(0)", x.tell(0), CutOnce.UNKNOWN);
        check.due("mark(0)", x.mark(0), CutOnce.UNKNOWN);
        check.due("as(0, 0)", x.as(0, 0), CutOnce.UNKNOWN);
        check.due("alike(0, 0, 0)", x.alike(0, 0, 0), CutOnce.UNKNOWN);
        check.due("shape(0, 0, 0, 0, 0)", x.shape(0, 0, 0, 0, 0), CutOnce.UNKNOWN);
        check.due("unlike()", x.unlike(), CutOnce.STATE);
    }

    static void promise01_newObject_noHEAP(Check check) {
        CutOnce x = new CutOnce();
        check.due("told(4)", x.told(4), 0);
        check.due("heaped(0, 0)", x.heaped(0, 0), CutOnce.UNKNOWN);
        check.due("take(0)", x.take(0), CutOnce.UNKNOWN);
        check.due("missing(0)", x.missing(0), 1);
        check.due("missing(1)", x.missing(1), 0);
        check.due("known(0)", x.known(0), 0);
        check.due("ways()", x.ways(), 0);
    }

    static void promise01_newObject_noSHEETS(Check check) {
        for (int k = 0; k < 4; k++) {
            CutOnce x = new CutOnce();
            for (int lane = 0; lane < 3; lane++) {
                check.due("cell(" + k + ", 0, " + lane + ")", x.cell(k, 0, lane), LOST);
                check.due("fault()", x.fault(), 1);
            }
            check.due("put(" + k + ", 0, 1)", x.put(k, 0, 1), -11);
            check.due("copy(" + k + ", 0, " + k + ", 0, 0)", x.copy(k, 0, k, 0, 0), -11);
            check.due("lose(" + k + ")", x.lose(k), 0);
        }
    }

    static void promise01_newObject_nothingSearchedToldOrFaultedYet(Check check) {
        CutOnce x = new CutOnce();
        check.due("trials()", x.trials(), 0);
        check.due("trace()", x.trace(), 0);
        check.due("fault()", x.fault(), 0);
        check.due("joined(0, 0)", x.joined(0, 0), CutOnce.STATE);
    }

    static void promise01_newObject_isNoneOfAnothersState(Check check) {
        State.full();
        CutOnce x = new CutOnce();
        check.same("beside a full one", State.reading(x), State.reading(new CutOnce()));
        check.due("told(4)", x.told(4), 0);
        check.due("trace()", x.trace(), 0);
    }

    // ---- 2 picture

    static void promise02_picture_least1By1AnswersNoSides(Check check) {
        CutOnce x = State.full();
        check.due("picture(1, 1)", x.picture(1, 1), 0);
        check.due("told(2)", x.told(2), 1);
        check.due("height(0, 0)", x.height(0, 0), LOST);
    }

    static void promise02_picture_greatest5By5Answers40Sides(Check check) {
        CutOnce x = new CutOnce();
        check.due("picture(5, 5)", x.picture(5, 5), 40);
        check.due("height(39, 4)", x.height(39, 4), 0);
        check.due("height(40, 0)", x.height(40, 0), LOST);
        check.due("picture(1, 5)", x.picture(1, 5), 4);
        check.due("picture(5, 1)", x.picture(5, 1), 4);
    }

    static void promise02_picture_OUTSIDE_wBelow1OrAbove5(Check check) {
        for (int w : new int[] {LEAST, -1, 0, 6, MOST}) {
            State.refused(check, State::full, "picture(" + w + ", 1)", x -> x.picture(w, 1), CutOnce.OUTSIDE, State.STAYS);
        }
    }

    static void promise02_picture_OUTSIDE_hBelow1OrAbove5(Check check) {
        for (int h : new int[] {LEAST, -1, 0, 6, MOST}) {
            State.refused(check, State::full, "picture(5, " + h + ")", x -> x.picture(5, h), CutOnce.OUTSIDE, State.STAYS);
        }
    }

    static void promise02_picture_OUTSIDE_bothAreNotAsTold(Check check) {
        State.refused(check, State::full, "picture(0, 6)", x -> x.picture(0, 6), CutOnce.OUTSIDE, State.STAYS);
        // 256 times 256 is 0, cut to two bytes; -1 times -6 is a number of pieces
        State.refused(check, State::full, "picture(-1, -6)", x -> x.picture(-1, -6), CutOnce.OUTSIDE, State.STAYS);
    }

    static void promise02_picture_allHEIGHTS0(Check check) {
        CutOnce x = State.full();
        check.due("picture(3, 2)", x.picture(3, 2), 7);
        for (int side = 0; side < 7; side++) {
            for (int i = 0; i < 5; i++) {
                check.due("height(" + side + ", " + i + ")", x.height(side, i), 0);
            }
        }
    }

    static void promise02_picture_allHEIGHTS0AlsoOfSidesThatWereNotThereBetween(Check check) {
        CutOnce x = State.made(5, 5, 3);
        x.picture(1, 1);
        x.picture(5, 5);
        for (int side = 0; side < 40; side++) {
            for (int i = 0; i < 5; i++) {
                check.due("height(" + side + ", " + i + ")", x.height(side, i), 0);
            }
        }
    }

    static void promise02_picture_THEHEAPBecomesEmpty(Check check) {
        CutOnce x = State.fullHeap();
        x.picture(2, 2);
        check.due("told(4)", x.told(4), 0);
        check.due("heaped(0, 0)", x.heaped(0, 0), CutOnce.UNKNOWN);
        check.due("missing(0)", x.missing(0), 4);
        check.due("lay(3, 2)", x.lay(3, 2), 1);
        check.due("heaped(0, 0)", x.heaped(0, 0), 3);
        check.due("heaped(0, 1)", x.heaped(0, 1), 2);
    }

    static void promise02_picture_leavesSHEETSAndTRACEAndTRIALSAndFaults(Check check) {
        CutOnce x = State.full();
        CutOnce twin = State.full();
        x.put(3, 0, 0);
        twin.put(3, 0, 0);
        x.picture(5, 5);
        x.picture(3, 2);
        var got = State.reading(x);
        var want = State.reading(twin);
        want.keySet().removeIf(call -> call.matches("(height|heaped|joined|told\\(4\\)).*"));
        got.keySet().retainAll(want.keySet());
        check.same("behind picture()", got, want);
    }

    // ---- 3 make

    static void promise03_make_answers1AlsoWithoutSIDES(Check check) {
        check.due("1 by 1: make(5)", new CutOnce().make(5), 1);
        check.due("5 by 5: make(5)", State.picture(5, 5).make(5), 1);
    }

    static void promise03_make_anyLongIsASeed(Check check) {
        for (long seed : new long[] {Long.MIN_VALUE, -1, 0, 1, Long.MAX_VALUE}) {
            CutOnce x = State.picture(2, 1);
            check.due("make(" + seed + ")", x.make(seed), 1);
            for (int i = 0; i < 5; i++) {
                long due = PlainCutOnce.numberBelow(Draws.drawAt(seed, i + 1), 19) - 9;
                check.due("make(" + seed + "): height(0, " + i + ")", x.height(0, i), due);
            }
        }
    }

    static void promise03_make_bringsHEIGHTSFromMinus9To9(Check check) {
        boolean[] came = new boolean[19];
        CutOnce x = State.made(5, 5, 4);
        for (int side = 0; side < 40; side++) {
            for (int i = 0; i < 5; i++) {
                long height = x.height(side, i);
                check.holds("height(" + side + ", " + i + ") is one: " + height, height >= -9 && height <= 9);
                came[(int) Math.floorMod(height + 9, 19L)] = true;
            }
        }
        for (int height = -9; height <= 9; height++) {
            check.holds("there is a height of " + height, came[height + 9]);
        }
    }

    static void promise03_make_isDoneAnewWhateverWasBefore(Check check) {
        CutOnce x = State.full();
        x.make(6);
        x.make(5);
        CutOnce other = State.made(3, 2, 5);
        for (int side = 0; side < 7; side++) {
            for (int i = 0; i < 5; i++) {
                check.due("height(" + side + ", " + i + ")", x.height(side, i), other.height(side, i));
            }
        }
    }

    static void promise03_make_leavesTHEHEAPAndSHEETSAndTRACE(Check check) {
        CutOnce x = State.full();
        CutOnce twin = State.full();
        x.make(5);
        var got = State.reading(x);
        var want = State.reading(twin);
        want.keySet().removeIf(call -> call.matches("(height|joined).*"));
        got.keySet().retainAll(want.keySet());
        check.same("behind make()", got, want);
    }

    // ---- 4 bend

    static void promise04_bend_answersWhatItWas(Check check) {
        CutOnce x = State.picture(2, 2);
        check.due("bend(3, 4, 9)", x.bend(3, 4, 9), 0);
        check.due("bend(3, 4, -9)", x.bend(3, 4, -9), 9);
        check.due("bend(3, 4, 0)", x.bend(3, 4, 0), -9);
        check.due("bend(3, 4, 0)", x.bend(3, 4, 0), 0);
    }

    static void promise04_bend_bendsThatHEIGHTAlone(Check check) {
        for (int side = 0; side < 7; side++) {
            for (int i = 0; i < 5; i++) {
                CutOnce x = State.full();
                var want = State.reading(State.full());
                want.put("height(" + side + ", " + i + ")", 8L);
                want.keySet().removeIf(call -> call.startsWith("joined"));
                check.due("bend(" + side + ", " + i + ", 8)", x.bend(side, i, 8), State.SHAPES[side][i]);
                var got = State.reading(x);
                got.keySet().retainAll(want.keySet());
                check.same("behind bend(" + side + ", " + i + ", 8)", got, want);
            }
        }
    }

    static void promise04_bend_LOST_noSuchSIDE(Check check) {
        for (int side : new int[] {LEAST, -1, 7, 8, 40, MOST}) {
            State.refused(check, State::full, "bend(" + side + ", 0, 1)", x -> x.bend(side, 0, 1), LOST, State.STAYS);
        }
    }

    static void promise04_bend_LOST_noSuchPlaceI(Check check) {
        for (int i : new int[] {LEAST, -1, 5, 6, MOST}) {
            // -1 and 5 lie in other sides' rows, if one looks at the cells alone
            State.refused(check, State::full, "bend(3, " + i + ", 1)", x -> x.bend(3, i, 1), LOST, State.STAYS);
        }
    }

    static void promise04_bend_LOST_vOUTSIDEMinus9To9(Check check) {
        for (int v : new int[] {LEAST, -10, 10, 256, MOST}) {
            State.refused(check, State::full, "bend(0, 0, " + v + ")", x -> x.bend(0, 0, v), LOST, State.STAYS);
        }
    }

    static void promise04_bend_LOST_severalAtOnce(Check check) {
        State.refused(check, State::full, "bend(7, 5, 10)", x -> x.bend(7, 5, 10), LOST, State.STAYS);
        State.refused(check, State::full, "bend(-1, 5, 0)", x -> x.bend(-1, 5, 0), LOST, State.STAYS);
        State.refused(check, State::full, "bend(0, -1, -10)", x -> x.bend(0, -1, -10), LOST, State.STAYS);
    }

    // ---- 5 height

    static void promise05_height_fromTheFirstToTheLast(Check check) {
        CutOnce x = State.full();
        for (int side = 0; side < 7; side++) {
            for (int i = 0; i < 5; i++) {
                check.due("height(" + side + ", " + i + ")", x.height(side, i), State.SHAPES[side][i]);
            }
        }
    }

    static void promise05_height_changesNothing(Check check) {
        State.untouched(check, "height(1, 4)", x -> x.height(1, 4));
    }

    static void promise05_height_LOST_noSuchSIDE(Check check) {
        for (int side : new int[] {LEAST, -1, 7, 8, 40, MOST}) {
            State.refused(check, State::full, "height(" + side + ", 0)", x -> x.height(side, 0), LOST, State.STAYS);
        }
    }

    static void promise05_height_LOST_noSuchPlaceI(Check check) {
        for (int i : new int[] {LEAST, -1, 5, 6, MOST}) {
            State.refused(check, State::full, "height(3, " + i + ")", x -> x.height(3, i), LOST, State.STAYS);
        }
        State.refused(check, State::full, "height(7, 5)", x -> x.height(7, 5), LOST, State.STAYS);
    }

    // ---- 6 shape

    private static void shapeRefused(Check check, int k, int lane, int i, int n, int s, int answer) {
        String call = "shape(" + k + ", " + lane + ", " + i + ", " + n + ", " + s + ")";
        int fault = answer <= -11 ? -10 - answer : 0;
        State.refused(check, State::full, call, x -> x.shape(k, lane, i, n, s), answer, fault);
    }

    /** 2 by 2, and a sheet of a lane with so many cells, each the number of its place less 20. */
    private static CutOnce counted(int lane, int cells) {
        CutOnce x = State.picture(2, 2);
        x.sheet(2, lane, cells);
        for (int i = 0; i < cells; i++) {
            x.put(2, i, i - 20);
        }
        return x;
    }

    static void promise06_shape_fiveCellsEachFromCellIOnToSidesFromSOn(Check check) {
        for (int lane = 0; lane < 3; lane++) {
            CutOnce x = counted(lane, 40);
            check.due("shape(2, " + lane + ", 13, 3, 1)", x.shape(2, lane, 13, 3, 1), 3);
            check.due("fault()", x.fault(), 0);
            for (int i = 0; i < 5; i++) {
                check.due("height(0, " + i + ")", x.height(0, i), 0);
                check.due("height(1, " + i + ")", x.height(1, i), i - 7);
                check.due("height(2, " + i + ")", x.height(2, i), i - 2);
                check.due("height(3, " + i + ")", x.height(3, i), i + 3);
            }
        }
    }

    static void promise06_shape_leavesTheSHEETAndOtherSIDES(Check check) {
        CutOnce x = State.full();
        var want = State.reading(State.full());
        check.due("shape(1, 1, 0, 1, 4)", x.shape(1, 1, 0, 1, 4), 1);
        for (int i = 0; i < 5; i++) {
            want.put("height(4, " + i + ")", i - 4L);
        }
        want.keySet().removeIf(call -> call.startsWith("joined"));
        var got = State.reading(x);
        got.keySet().retainAll(want.keySet());
        check.same("behind shape()", got, want);
    }

    static void promise06_shape_cellsWereCutToTheirLANEBefore(Check check) {
        CutOnce x = State.picture(2, 1);
        x.sheet(0, 0, 5);
        for (int i = 0; i < 5; i++) {
            x.put(0, i, 256 + i);
        }
        check.due("bytes of 256 and on: shape(0, 0, 0, 1, 0)", x.shape(0, 0, 0, 1, 0), 1);
        check.due("height(0, 4)", x.height(0, 4), 4);
        x.sheet(0, 1, 5);
        x.put(0, 0, 65536 - 9);
        check.due("a short of 65527: shape(0, 1, 0, 1, 0)", x.shape(0, 1, 0, 1, 0), 1);
        check.due("height(0, 0)", x.height(0, 0), -9);
        x.sheet(0, 2, 5);
        x.put(0, 0, 65536);
        check.due("an int of 65536: shape(0, 2, 0, 1, 0)", x.shape(0, 2, 0, 1, 0), CutOnce.OUTSIDE);
    }

    static void promise06_shape_n0AnswersNoneAndBendsNothing(Check check) {
        CutOnce x = State.full();
        check.due("shape(1, 1, 0, 0, 0)", x.shape(1, 1, 0, 0, 0), 0);
        check.due("shape(0, 0, 0, 0, 6): the cells are no heights, but none is taken", x.shape(0, 0, 0, 0, 6), 0);
        check.due("fault()", x.fault(), 0);
        for (int side = 0; side < 7; side++) {
            for (int i = 0; i < 5; i++) {
                check.due("height(" + side + ", " + i + ")", x.height(side, i), State.SHAPES[side][i]);
            }
        }
    }

    static void promise06_shape_INDEX_alsoWithN0_iBelow0(Check check) {
        shapeRefused(check, 1, 1, -1, 0, 0, -13);
        shapeRefused(check, 1, 1, LEAST, 0, 0, -13);
    }

    static void promise06_shape_INDEX_alsoWithN0_iAboveHowManyThereAre(Check check) {
        shapeRefused(check, 1, 1, 13, 0, 0, -13);
        shapeRefused(check, 1, 1, MOST, 0, 6, -13);
        CutOnce x = State.full();
        check.due("at how many there are: shape(1, 1, 12, 0, 0)", x.shape(1, 1, 12, 0, 0), 0);
        check.due("fault()", x.fault(), 0);
    }

    static void promise06_shape_INDEX_anEmptyRow(Check check) {
        CutOnce x = State.picture(2, 1);
        x.sheet(0, 1, 0);
        check.due("shape(0, 1, 0, 0, 0)", x.shape(0, 1, 0, 0, 0), 0);
        check.due("shape(0, 1, 1, 0, 0)", x.shape(0, 1, 1, 0, 0), -13);
        check.due("shape(0, 1, 0, 1, 0)", x.shape(0, 1, 0, 1, 0), -13);
        check.due("fault()", x.fault(), 3);
    }

    static void promise06_shape_INDEX_cellsThatAreNot(Check check) {
        shapeRefused(check, 1, 1, -1, 1, 0, -13);
        shapeRefused(check, 1, 1, 8, 1, 0, -13);
        shapeRefused(check, 1, 1, 3, 2, 0, -13);
        shapeRefused(check, 1, 1, 0, 3, 0, -13);
        shapeRefused(check, 1, 1, 12, 1, 0, -13);
        shapeRefused(check, 1, 1, MOST, 1, 0, -13);
        shapeRefused(check, 1, 1, LEAST, 1, 0, -13);
    }

    static void promise06_shape_upToTheLastCellOfAFullRow(Check check) {
        CutOnce x = State.picture(5, 5);
        x.sheet(0, 2, 50);
        x.put(0, 0, -9);
        x.put(0, 49, 9);
        check.due("shape(0, 2, 0, 10, 30)", x.shape(0, 2, 0, 10, 30), 10);
        check.due("height(30, 0)", x.height(30, 0), -9);
        check.due("height(39, 4)", x.height(39, 4), 9);
        check.due("shape(0, 2, 1, 10, 30)", x.shape(0, 2, 1, 10, 30), -13);
        check.due("shape(0, 2, 0, 11, 0)", x.shape(0, 2, 0, 11, 0), -13);
        check.due("shape(0, 2, 45, 1, 0)", x.shape(0, 2, 45, 1, 0), 1);
        check.due("shape(0, 2, 46, 1, 0)", x.shape(0, 2, 46, 1, 0), -13);
        check.due("height(0, 4)", x.height(0, 4), 9);
    }

    static void promise06_shape_INDEX_SIDESThatAreNot(Check check) {
        CutOnce x = State.full();
        check.due("up to the last side: shape(1, 1, 0, 2, 5)", x.shape(1, 1, 0, 2, 5), 2);
        check.due("height(6, 4)", x.height(6, 4), 5);
        shapeRefused(check, 1, 1, 0, 2, 6, -13);
        x = State.picture(5, 5);
        x.sheet(0, 2, 50);
        check.due("shape(0, 2, 0, 10, 31)", x.shape(0, 2, 0, 10, 31), -13);
        check.due("shape(0, 2, 0, 2, 39)", x.shape(0, 2, 0, 2, 39), -13);
        check.due("shape(0, 2, 0, 1, 39)", x.shape(0, 2, 0, 1, 39), 1);
    }

    static void promise06_shape_INDEX_soManyThatNumbersGoRound(Check check) {
        // five times 858993460 is 4, five times 429496730 is -2147483646, if it goes round
        shapeRefused(check, 1, 1, 0, 858993460, 0, -13);
        shapeRefused(check, 1, 1, 0, 429496730, 0, -13);
        shapeRefused(check, 1, 1, 0, MOST, 6, -13);
        shapeRefused(check, 1, 1, MOST, MOST, 6, -13);
    }

    static void promise06_shape_UNKNOWN_noSuchSHEET(Check check) {
        for (int k : new int[] {LEAST, -1, 4, 5, MOST}) {
            shapeRefused(check, k, 1, 0, 1, 0, -1);
        }
    }

    static void promise06_shape_UNKNOWN_noSuchSIDES(Check check) {
        for (int s : new int[] {LEAST, -1, 7, 8, 40, MOST}) {
            shapeRefused(check, 1, 1, 0, 1, s, -1);
            shapeRefused(check, 1, 1, 0, 0, s, -1);
        }
    }

    static void promise06_shape_OUTSIDE_lane(Check check) {
        for (int lane : new int[] {LEAST, -1, 3, 4, MOST}) {
            shapeRefused(check, 1, lane, 0, 1, 0, -2);
        }
    }

    static void promise06_shape_CAST_ofAnotherLANE(Check check) {
        for (int k = 0; k < 3; k++) {
            for (int lane = 0; lane < 3; lane++) {
                if (lane != k) {
                    shapeRefused(check, k, lane, 0, 0, 0, -12);
                }
            }
        }
    }

    static void promise06_shape_NULL_nothingIsNoCAST(Check check) {
        for (int lane = 0; lane < 3; lane++) {
            shapeRefused(check, 3, lane, 0, 1, 0, -11);
            shapeRefused(check, 3, lane, 0, 0, 0, -11);
        }
        CutOnce x = State.full();
        x.lose(1);
        check.due("a row that was lost is no CAST: shape(1, 0, 0, 1, 0)", x.shape(1, 0, 0, 1, 0), -11);
        check.due("shape(1, 1, 0, 1, 0)", x.shape(1, 1, 0, 1, 0), -11);
    }

    static void promise06_shape_SIZE_nBelow0(Check check) {
        shapeRefused(check, 1, 1, 0, -1, 0, -14);
        shapeRefused(check, 1, 1, 5, -1, 6, -14);
        shapeRefused(check, 1, 1, 0, LEAST, 0, -14);
    }

    static void promise06_shape_OUTSIDE_aHeight(Check check) {
        shapeRefused(check, 0, 0, 0, 1, 0, -2);
        shapeRefused(check, 0, 0, 1, 1, 0, -2);
        shapeRefused(check, 1, 1, 7, 1, 6, -2);
        // the first side's cells are heights: it stays, too
        shapeRefused(check, 1, 1, 2, 2, 0, -2);
        CutOnce x = State.full();
        check.due("heights alone: shape(1, 1, 6, 1, 0)", x.shape(1, 1, 6, 1, 0), 1);
    }

    static void promise06_shape_heightsOfMinus9And9AreOnes(Check check) {
        for (int at = 0; at < 5; at++) {
            for (int v : new int[] {-10, -9, 9, 10}) {
                CutOnce x = State.picture(2, 1);
                x.sheet(0, 0, 5);
                x.put(0, at, v);
                boolean is = Math.abs(v) == 9;
                check.due("with " + v + " at " + at + ": shape(0, 0, 0, 1, 0)", x.shape(0, 0, 0, 1, 0), is ? 1 : CutOnce.OUTSIDE);
                check.due("height(0, " + at + ")", x.height(0, at), is ? v : 0);
                check.due("fault()", x.fault(), 0);
            }
        }
    }

    static void promise06_shape_severalAtOnce_UNKNOWNAheadOfAll(Check check) {
        for (int[] sheetAndSide : new int[][] {{4, 0}, {-1, 0}, {1, 7}, {0, -1}, {3, 7}, {4, 7}}) {
            int k = sheetAndSide[0];
            int s = sheetAndSide[1];
            shapeRefused(check, k, 3, 0, 1, s, -1);
            shapeRefused(check, k, 2, 0, 1, s, -1);
            shapeRefused(check, k, 1, 0, -1, s, -1);
            shapeRefused(check, k, 1, 13, 0, s, -1);
            shapeRefused(check, k, 0, 0, 1, s, -1);
            shapeRefused(check, k, -1, -1, -1, s, -1);
        }
    }

    static void promise06_shape_severalAtOnce_OUTSIDEOfALaneAheadOfFAULTS(Check check) {
        shapeRefused(check, 3, 3, 0, 1, 0, -2);
        shapeRefused(check, 1, 3, 0, -1, 0, -2);
        shapeRefused(check, 1, -1, 13, 0, 0, -2);
        shapeRefused(check, 0, 3, 0, 1, 0, -2);
        shapeRefused(check, 3, 3, -1, -1, 0, -2);
    }

    static void promise06_shape_severalAtOnce_CASTAheadOfSIZEAndINDEXAndAHeight(Check check) {
        shapeRefused(check, 1, 2, 0, -1, 0, -12);
        shapeRefused(check, 1, 0, -1, 0, 0, -12);
        shapeRefused(check, 1, 0, 13, 1, 6, -12);
        shapeRefused(check, 0, 1, 0, 1, 0, -12);
        shapeRefused(check, 1, 0, -1, -1, 0, -12);
    }

    static void promise06_shape_severalAtOnce_NULLAheadOfSIZEAndINDEX(Check check) {
        shapeRefused(check, 3, 0, 0, -1, 0, -11);
        shapeRefused(check, 3, 1, -1, 0, 0, -11);
        shapeRefused(check, 3, 2, -1, -1, 6, -11);
        shapeRefused(check, 3, 2, 0, 2, 6, -11);
    }

    static void promise06_shape_severalAtOnce_SIZEAheadOfINDEX(Check check) {
        shapeRefused(check, 1, 1, -1, -1, 0, -14);
        shapeRefused(check, 1, 1, 13, -1, 0, -14);
        shapeRefused(check, 0, 0, MOST, LEAST, 6, -14);
    }

    static void promise06_shape_severalAtOnce_INDEXAheadOfOUTSIDEOfAHeight(Check check) {
        shapeRefused(check, 0, 0, 0, 2, 0, -13);
        shapeRefused(check, 0, 0, 2, 1, 0, -13);
        // cells 2 to 11 are there, 11 is no height; side 7 is not there
        shapeRefused(check, 1, 1, 2, 2, 6, -13);
    }

    // ---- 7 sideOf

    static void promise07_sideOf_NONEMinus9WhereItIsFLAT(Check check) {
        CutOnce x = State.picture(1, 1);
        for (int e = 0; e < 4; e++) {
            check.due("1 by 1: sideOf(0, " + e + ")", x.sideOf(0, e), -9);
        }
        x = State.picture(5, 5);
        for (int i = 0; i < 5; i++) {
            check.due("sideOf(" + i + ", 0)", x.sideOf(i, 0), -9);
            check.due("sideOf(" + (5 * i + 4) + ", 1)", x.sideOf(5 * i + 4, 1), -9);
            check.due("sideOf(" + (20 + i) + ", 2)", x.sideOf(20 + i, 2), -9);
            check.due("sideOf(" + 5 * i + ", 3)", x.sideOf(5 * i, 3), -9);
        }
    }

    static void promise07_sideOf_theFirstAndTheLastSIDE(Check check) {
        CutOnce x = State.picture(5, 5);
        check.due("sideOf(0, 1)", x.sideOf(0, 1), 0);
        check.due("sideOf(1, 3)", x.sideOf(1, 3), 0);
        check.due("sideOf(23, 1)", x.sideOf(23, 1), 19);
        check.due("sideOf(0, 2)", x.sideOf(0, 2), 20);
        check.due("sideOf(19, 2)", x.sideOf(19, 2), 39);
        check.due("sideOf(24, 0)", x.sideOf(24, 0), 39);
    }

    static void promise07_sideOf_changesNothing(Check check) {
        State.untouched(check, "sideOf(0, 0)", x -> x.sideOf(0, 0));
        State.untouched(check, "sideOf(4, 3)", x -> x.sideOf(4, 3));
    }

    static void promise07_sideOf_UNKNOWN_noSuchPIECE(Check check) {
        for (int p : new int[] {LEAST, -1, 6, 7, 25, MOST}) {
            State.refused(check, State::full, "sideOf(" + p + ", 1)", x -> x.sideOf(p, 1), CutOnce.UNKNOWN, State.STAYS);
        }
    }

    static void promise07_sideOf_UNKNOWN_noSuchEDGE(Check check) {
        for (int e : new int[] {LEAST, -1, 4, 5, MOST}) {
            State.refused(check, State::full, "sideOf(1, " + e + ")", x -> x.sideOf(1, e), CutOnce.UNKNOWN, State.STAYS);
        }
        State.refused(check, State::full, "sideOf(6, 4)", x -> x.sideOf(6, 4), CutOnce.UNKNOWN, State.STAYS);
    }

    // ---- 8 edge

    static void promise08_edge_asItGoesRoundItFromTheFirstToTheFifth(Check check) {
        CutOnce x = State.full();
        int[] right = {1, 2, 3, 4, 5};
        int[] left = {-9, 0, 0, 4, -3};
        for (int i = 0; i < 5; i++) {
            check.due("edge(1, 1, " + i + ")", x.edge(1, 1, i), right[i]);
            check.due("edge(1, 3, " + i + ")", x.edge(1, 3, i), left[i]);
        }
    }

    static void promise08_edge_changesNothing(Check check) {
        State.untouched(check, "edge(0, 1, 0)", x -> x.edge(0, 1, 0));
        State.untouched(check, "edge(4, 0, 4)", x -> x.edge(4, 0, 4));
    }

    static void promise08_edge_LOST_noSuchPIECE(Check check) {
        for (int p : new int[] {LEAST, -1, 6, 7, MOST}) {
            State.refused(check, State::full, "edge(" + p + ", 1, 0)", x -> x.edge(p, 1, 0), LOST, State.STAYS);
        }
    }

    static void promise08_edge_LOST_noSuchEDGE(Check check) {
        for (int e : new int[] {LEAST, -1, 4, 5, MOST}) {
            State.refused(check, State::full, "edge(1, " + e + ", 0)", x -> x.edge(1, e, 0), LOST, State.STAYS);
        }
    }

    static void promise08_edge_LOST_noSuchPlaceI(Check check) {
        for (int i : new int[] {LEAST, -1, 5, 6, MOST}) {
            State.refused(check, State::full, "edge(1, 1, " + i + ")", x -> x.edge(1, 1, i), LOST, State.STAYS);
            State.refused(check, State::full, "edge(1, 3, " + i + ")", x -> x.edge(1, 3, i), LOST, State.STAYS);
        }
    }

    static void promise08_edge_LOST_itIsFLAT(Check check) {
        for (int i = 0; i < 5; i++) {
            int at = i;
            State.refused(check, State::full, "edge(0, 0, " + i + ")", x -> x.edge(0, 0, at), LOST, State.STAYS);
        }
        State.refused(check, State::full, "edge(0, 3, 0)", x -> x.edge(0, 3, 0), LOST, State.STAYS);
        State.refused(check, State::full, "edge(5, 1, 4)", x -> x.edge(5, 1, 4), LOST, State.STAYS);
        State.refused(check, State::full, "edge(5, 2, 4)", x -> x.edge(5, 2, 4), LOST, State.STAYS);
        State.refused(check, State::full, "edge(0, 0, 5)", x -> x.edge(0, 0, 5), LOST, State.STAYS);
    }

    // ---- 9 far

    private static void farRefused(Check check, int p, int e, int q, int f, int answer) {
        String call = "far(" + p + ", " + e + ", " + q + ", " + f + ")";
        State.refused(check, State::full, call, x -> x.far(p, e, q, f), answer, State.STAYS);
    }

    static void promise09_far_0TheyFIT(Check check) {
        CutOnce x = State.full();
        check.due("edges of one side: far(0, 1, 1, 3)", x.far(0, 1, 1, 3), 0);
        check.due("edges of one side: far(5, 0, 2, 2)", x.far(5, 0, 2, 2), 0);
        check.due("traps: far(3, 1, 4, 1)", x.far(3, 1, 4, 1), 0);
        x.bend(2, 0, 8);
        check.due("one bent by 1: far(3, 1, 4, 1)", x.far(3, 1, 4, 1), 1);
    }

    static void promise09_far_anEdgeFromItself(Check check) {
        CutOnce x = State.picture(2, 1);
        check.due("0 five times: far(0, 1, 0, 1)", x.far(0, 1, 0, 1), 0);
        State.bend(x, 0, 9, 9, 9, 9, 9);
        check.due("9 five times: far(0, 1, 0, 1)", x.far(0, 1, 0, 1), 90);
        State.bend(x, 0, 4, -3, 0, 3, -4);
        check.due("4 -3 0 3 -4: far(0, 1, 0, 1)", x.far(0, 1, 0, 1), 0);
    }

    static void promise09_far_theSameEitherWay(Check check) {
        CutOnce x = State.full();
        // 3 -4 0 0 9 and 5 4 3 2 1; 1 2 3 4 5 and 9 0 0 -4 3
        check.due("far(0, 1, 1, 1)", x.far(0, 1, 1, 1), 8 + 0 + 3 + 2 + 10);
        check.due("far(1, 1, 0, 1)", x.far(1, 1, 0, 1), 10 + 2 + 3 + 0 + 8);
    }

    static void promise09_far_changesNothing(Check check) {
        State.untouched(check, "far(0, 1, 4, 0)", x -> x.far(0, 1, 4, 0));
    }

    static void promise09_far_UNKNOWN_noSuchPIECE(Check check) {
        for (int p : new int[] {LEAST, -1, 6, 7, MOST}) {
            farRefused(check, p, 1, 1, 3, -1);
            farRefused(check, 0, 1, p, 3, -1);
        }
    }

    static void promise09_far_UNKNOWN_noSuchEDGE(Check check) {
        for (int e : new int[] {LEAST, -1, 4, 5, MOST}) {
            farRefused(check, 0, e, 1, 3, -1);
            farRefused(check, 0, 1, 1, e, -1);
        }
    }

    static void promise09_far_STATE_oneIsFLAT(Check check) {
        farRefused(check, 0, 0, 1, 3, -3);
        farRefused(check, 0, 1, 1, 0, -3);
        farRefused(check, 0, 0, 1, 0, -3);
        farRefused(check, 0, 3, 0, 3, -3);
        farRefused(check, 5, 1, 5, 2, -3);
    }

    static void promise09_far_severalAtOnce_UNKNOWNAheadOfSTATE(Check check) {
        farRefused(check, 0, 0, 6, 0, -1);
        farRefused(check, 0, 0, 0, 4, -1);
        farRefused(check, -1, 0, 0, 0, -1);
        farRefused(check, 0, -1, 0, 0, -1);
        farRefused(check, 6, 4, 6, 4, -1);
    }
}
