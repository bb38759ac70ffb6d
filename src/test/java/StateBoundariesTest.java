/** The boundary cases that the document names for states: promises 7, 8, 19, 20. */
public final class StateBoundariesTest {
    private static final Due due = new Due();
    private static final String KINDS = "sfwro";
    private static final int[] NO_TELLS = {Due.LEAST, -2, -1, 8, 9, 256, Due.MOST};
    private static final int[] NO_KINDS = {Due.LEAST, -2, -1, 5, 6, 256, Due.MOST};
    private static final int[] NO_SIGNS = {Due.LEAST, -2, -1, 2, 3, 256, Due.MOST};

    public static void main(String[] args) {
        statesThatThereAreNot();
        tellsThatThereAreNot();
        nextOfNone();
        nextIsToldWhateverTheKind();
        reachOfNone();
        reachOfAll();
        reachByEachSign();
        stillAndOnceHaveNoNext();
        coreIsOwnReach();
        leastAlikeIsItself();
        alikeForAllRows();
        unlikeOnlyFarBehind();
        alikeGoesByTheMachineNow();
        classesCountOneThatDoesNothing();
        allAreStates();
        asOfWrongNumbers();
        asGoesByTheKindNow();
        aimEveryNext();
        aimToNone();
        aimOfWrongNumbers();
        aimOfAStillIsTold();
        changeEveryKind();
        changeOfWrongNumbers();
        aimAndChangeTouchTheStateAlone();
        due.end();
    }

    /** State numbers that name nothing in a machine of so many states. */
    private static int[] noStates(int states) {
        return new int[] {Due.LEAST, -2, -1, states, states + 1, 6, 7, 256, Due.MOST};
    }

    private static String alikeStates(int states) {
        return "s--,s--,s--,s--,s--,s--".substring(0, 4 * states - 1);
    }

    // ---- promise 7

    private static void statesThatThereAreNot() {
        due.sentence(7, "state(): UNKNOWN, ahead of OUTSIDE");
        for (int states = 1; states <= 6; states++) {
            TreeActs x = Due.with(alikeStates(states));
            for (int state : noStates(states)) {
                for (int what = -1; what <= 8; what++) {
                    due.is("state(" + state + ", " + what + ")", x.state(state, what), Due.UNKNOWN);
                }
            }
            due.is("the last STATE", x.state(states - 1, 0), 0);
        }
        due.is("state(0, 8) without a MACHINE", new TreeActs().state(0, 8), Due.UNKNOWN);
    }

    private static void tellsThatThereAreNot() {
        due.sentence(7, "state(): OUTSIDE");
        TreeActs x = Due.with("s01,f1-");
        for (int what : NO_TELLS) {
            due.is("state(1, " + what + ")", x.state(1, what), Due.OUTSIDE);
        }
        due.is("state(1, 0)", x.state(1, 0), 1);
        due.is("state(1, 7)", x.state(1, 7), 0);
    }

    private static void nextOfNone() {
        due.sentence(7, "1 its NEXT for 0 (NONE), 2 its NEXT for 1 (NONE)");
        TreeActs x = Due.with("s--,s0-,s-0,s55,s50,s05");
        int[] for0 = {Due.NONE, 0, Due.NONE, 5, 5, 0};
        int[] for1 = {Due.NONE, Due.NONE, 0, 5, 0, 5};
        for (int state = 0; state < 6; state++) {
            due.is("state(" + state + ", 1)", x.state(state, 1), for0[state]);
            due.is("state(" + state + ", 2)", x.state(state, 2), for1[state]);
        }
    }

    private static void nextIsToldWhateverTheKind() {
        due.sentence(7, "(as told, whatever its KIND)");
        for (int kind = 0; kind < 5; kind++) {
            TreeActs x = Due.with(KINDS.charAt(kind) + "10," + KINDS.charAt(kind) + "-1");
            due.is("KIND", x.state(0, 0), kind);
            due.is("NEXT for 0", x.state(0, 1), 1);
            due.is("NEXT for 1", x.state(0, 2), 0);
            due.is("NEXT for 0, none", x.state(1, 1), Due.NONE);
            due.is("NEXT for 1", x.state(1, 2), 1);
        }
    }

    private static void reachOfNone() {
        due.sentence(7, "3 REACH, as bits: none");
        for (int states = 1; states <= 6; states++) {
            TreeActs x = Due.with(alikeStates(states));
            for (int state = 0; state < states; state++) {
                due.is("REACH", x.state(state, 3), 0);
                due.is("CORE", x.state(state, 4), 0);
            }
            due.is("count(2)", x.count(2), 0);
        }
    }

    private static void reachOfAll() {
        due.sentence(7, "all STATES that are NEXT, NEXT of these, and so on");
        // a round of six, either way about: the farthest one is come to behind six steps
        TreeActs up = Due.with("s1-,f-2,w3-,s-4,f5-,w-0");
        TreeActs down = Due.with("s-5,f0-,w-1,s2-,f-3,w4-");
        for (int state = 0; state < 6; state++) {
            due.is("REACH up", up.state(state, 3), 63);
            due.is("REACH down", down.state(state, 3), 63);
            due.is("CORE up", up.state(state, 4), 1);
            due.is("CORE down", down.state(state, 4), 1);
        }
        due.is("count(2)", up.count(2), 6);
        TreeActs chain = Due.with("s1-,s-2,s3-,s-4,s5-,s--");
        TreeActs back = Due.with("s--,s0-,s-1,s2-,s-3,s4-");
        for (int state = 0; state < 6; state++) {
            due.is("REACH of a chain", chain.state(state, 3), 63 & ~((2 << state) - 1));
            due.is("REACH of a chain back", back.state(state, 3), (1 << state) - 1);
            due.is("CORE of a chain", chain.state(state, 4), 0);
        }
        due.is("count(2) of a chain", chain.count(2), 0);
    }

    private static void reachByEachSign() {
        due.sentence(7, "of it by its KIND");
        for (int kind = 0; kind < 3; kind++) {
            TreeActs x = Due.with(KINDS.charAt(kind) + "1-," + KINDS.charAt(kind) + "-2,s--");
            due.is("by NEXT for 0, then for 1", x.state(0, 3), 6);
            due.is("by NEXT for 1", x.state(1, 3), 4);
            TreeActs itself = Due.with(KINDS.charAt(kind) + "0-," + KINDS.charAt(kind) + "-1");
            due.is("itself by NEXT for 0", itself.state(0, 3), 1);
            due.is("itself by NEXT for 1", itself.state(1, 3), 2);
            TreeActs both = Due.with(KINDS.charAt(kind) + "11," + KINDS.charAt(kind) + "11");
            due.is("one by both", both.state(0, 3), 2);
            due.is("itself by both", both.state(1, 3), 2);
            due.is("CORE", both.count(2), 1);
        }
    }

    private static void stillAndOnceHaveNoNext() {
        due.sentence(7, "a STILL, a ONCE have none");
        TreeActs x = Due.with("r00,o11,s02,s1-,f3-");
        int[] reach = {0, 0, 1 + 4, 2, 2 + 8};
        int[] core = {0, 0, 1, 0, 0};
        for (int state = 0; state < 5; state++) {
            due.is("REACH of " + state, x.state(state, 3), reach[state]);
            due.is("CORE of " + state, x.state(state, 4), core[state]);
        }
        due.is("count(2)", x.count(2), 1);
        // a round that one of these cuts is none
        TreeActs cut = Due.with("s1-,s2-,s0-");
        due.is("a round", cut.count(2), 3);
        cut.change(1, 3);
        due.is("cut by a STILL", cut.count(2), 0);
        due.is("REACH", cut.state(2, 3), 3);
        cut.change(1, 4);
        due.is("cut by a ONCE", cut.count(2), 0);
        cut.change(1, 2);
        due.is("a round again", cut.count(2), 3);
    }

    private static void coreIsOwnReach() {
        due.sentence(7, "A STATE is in the CORE, if it is in its own REACH");
        // 0 leads to the round of 1 and 2, which leads to 3; 4 is its own; 5 leads to 4
        TreeActs x = Due.with("s1-,f2-,w13,s--,s-4,s44");
        int[] core = {0, 1, 1, 0, 1, 0};
        for (int state = 0; state < 6; state++) {
            due.is("CORE of " + state, x.state(state, 4), core[state]);
        }
        due.is("count(2)", x.count(2), 3);
        due.is("one that is its own", Due.with("s-0").state(0, 4), 1);
    }

    private static void leastAlikeIsItself() {
        due.sentence(7, "the least STATE that is ALIKE (itself, if there is none)");
        TreeActs alone = Due.with("o--");
        due.is("the one that there is", alone.state(0, 5), 0);
        TreeActs unlike = Due.with("r--,o--,f-2,s-1,w-2,s1-");
        for (int state = 0; state < 6; state++) {
            due.is("itself: " + state, unlike.state(state, 5), state);
        }
        TreeActs alike = Due.with("o--,r--,s--,f--,s12,w--");
        int[] least = {0, 1, 1, 0, 1, 0};
        for (int state = 0; state < 6; state++) {
            due.is("least: " + state, alike.state(state, 5), least[state]);
        }
        due.is("the last one is like none but one ahead", Due.with("r--,r--,r--,r--,o--,o11").state(5, 5), 4);
    }

    private static void alikeForAllRows() {
        due.sentence(7, "Two STATES are ALIKE, if they do the same to all ROWS");
        due.is("a TWIST and its FLIP", Due.with("w-0,f1-").state(1, 5), 0);
        due.is("a TWIST and a FLIP that go on unlike", Due.with("w-0,f-1").state(1, 5), 1);
        due.is("a TWIST and a FLIP that go on by both", Due.with("w01,f01").state(1, 5), 0);
        due.is("a STILL whatever NEXT is told", Due.with("s--,r22,o--").state(1, 5), 0);
        due.is("a ONCE whatever NEXT is told", Due.with("f--,o11").state(1, 5), 0);
        due.is("a STATE that leads to itself alone", Due.with("r--,s11").state(1, 5), 0);
        due.is("two that lead to one another", Due.with("s11,s00,r--").state(2, 5), 0);
        due.is("flips all that comes", Due.with("f11,w00").state(1, 5), 0);
        due.is("not one and its INVERSE", Due.with("f-0,f1-").state(1, 5), 1);
        due.is("not one for 0 and one for 1", Due.with("s2-,s-2,o--").state(1, 5), 1);
        due.is("a NEXT that does nothing is as none", Due.with("s2-,s21,r--").state(1, 5), 0);
        due.is("a NEXT that does nothing is as none", Due.with("f21,f-1,r--").state(1, 5), 0);
    }

    private static void unlikeOnlyFarBehind() {
        due.sentence(7, "the same to all ROWS: also to long ones");
        TreeActs chain = Due.with("s1-,s2-,s3-,s4-,s5-,o--");
        TreeActs one = Due.with("s--,s2-,s3-,s4-,s5-,o--");
        TreeActs back = Due.with("o--,s-0,s-1,s-2,s-3,s--");
        for (int state = 0; state < 6; state++) {
            due.is("itself: " + state, chain.state(state, 5), state);
            due.is("itself: " + state, one.state(state, 5), state);
            due.is("itself: " + state, back.state(state, 5), state);
        }
        due.is("six unlike ones", chain.count(1), 6);
        due.is("six unlike ones", one.count(1), 6);
        due.is("six unlike ones", back.count(1), 6);
        chain.change(5, 3);
        due.is("all do nothing", chain.count(1), 1);
        due.is("the last one", chain.state(5, 5), 0);
    }

    /** What was told of another machine, or ahead of a change, is no matter: also where states lead round for ever. */
    private static void alikeGoesByTheMachineNow() {
        due.sentence(7, "Two STATES are ALIKE, if they do the same to all ROWS: as they are now");
        TreeActs round = Due.with("s11,o00");
        due.is("unlike", round.count(1), 2);
        round.change(1, 0);
        due.is("both lead round and do nothing", round.count(1), 1);
        due.is("the least one", round.state(1, 5), 0);
        TreeActs still = Due.with("s11,o00,r--");
        due.is("unlike", still.count(1), 3);
        still.change(1, 0);
        due.is("as a STILL does", still.count(1), 1);
        due.is("the least one", still.state(2, 5), 0);
        still.change(1, 4);
        due.is("unlike again", still.count(1), 3);
        TreeActs another = Due.with("s1-,s2-,s3-,s4-,s5-,o--");
        due.is("all unlike", another.count(1), 6);
        Due.type(another, "s11,s22,s33,s44,s55,s00");
        another.machine();
        due.is("another machine, all alike", another.count(1), 1);
    }

    private static void classesCountOneThatDoesNothing() {
        due.sentence(26, "CLASSES: how many unlike ones there are (also of a STATE that does nothing)");
        due.is("no MACHINE", new TreeActs().count(1), 0);
        due.is("one that does nothing", Due.with("r--").count(1), 1);
        due.is("six that do nothing", Due.with("r--,s--,s01,r55,s34,s43").count(1), 1);
        due.is("one that does nothing and one that flips", Due.with("s--,o--").count(1), 2);
        due.is("none that does nothing", Due.with("o--,f--").count(1), 1);
        due.is("none is not counted as a STATE", Due.with("f-0").count(1), 1);
    }

    // ---- promise 8

    private static void allAreStates() {
        due.sentence(8, "NONE: it is none such (the cast fails); all are STATES; a TWIST is a FLIP, too");
        String[] such = {"sfwro", "fw", "w", "r", "o"};
        for (int own = 0; own < 5; own++) {
            for (int kind = 0; kind < 5; kind++) {
                TreeActs x = Due.with("s--,s--,s--,s--,s--," + KINDS.charAt(own) + "--");
                boolean is = such[kind].indexOf(KINDS.charAt(own)) >= 0;
                due.is(KINDS.charAt(own) + " as " + kind, x.as(5, kind), is ? 5 : Due.NONE);
                due.is("STATE 0 as STATE", x.as(0, 0), 0);
            }
        }
    }

    private static void asOfWrongNumbers() {
        due.sentence(8, "as(): UNKNOWN; OUTSIDE");
        TreeActs x = Due.with("s--,f--,w--");
        for (int kind : NO_KINDS) {
            due.is("as(2, " + kind + ")", x.as(2, kind), Due.OUTSIDE);
        }
        for (int state : noStates(3)) {
            due.is("as(" + state + ", 0)", x.as(state, 0), Due.UNKNOWN);
            due.is("as(" + state + ", 4)", x.as(state, 4), Due.UNKNOWN);
            due.is("as(" + state + ", 5)", x.as(state, 5), Due.UNKNOWN);
            due.is("as(" + state + ", -1)", x.as(state, -1), Due.UNKNOWN);
        }
        due.is("as(0, 0) without a MACHINE", new TreeActs().as(0, 0), Due.UNKNOWN);
        due.is("as(0, 9) without a MACHINE", new TreeActs().as(0, 9), Due.UNKNOWN);
    }

    private static void asGoesByTheKindNow() {
        due.sentence(8, "A STATE taken as a KIND");
        TreeActs x = Due.with("f--");
        due.is("a FLIP as a TWIST", x.as(0, 2), Due.NONE);
        x.change(0, 2);
        due.is("a TWIST as a TWIST", x.as(0, 2), 0);
        due.is("a TWIST as a FLIP", x.as(0, 1), 0);
        x.change(0, 4);
        due.is("a ONCE as a FLIP", x.as(0, 1), Due.NONE);
        due.is("a ONCE as a ONCE", x.as(0, 4), 0);
        due.is("a ONCE as a STILL", x.as(0, 3), Due.NONE);
    }

    // ---- promise 19

    private static void aimEveryNext() {
        due.sentence(19, "A NEXT of a STATE is another one: which it was");
        for (int states = 1; states <= 6; states++) {
            for (int state = 0; state < states; state++) {
                TreeActs x = Due.with(alikeStates(states));
                int[] was = {Due.NONE, Due.NONE};
                for (int to = states - 1; to >= 0; to--) {
                    for (int sign = 0; sign <= 1; sign++) {
                        due.is("aim(" + state + ", " + sign + ", " + to + ")", x.aim(state, sign, to), was[sign]);
                        was[sign] = to;
                        due.is("NEXT for 0", x.state(state, 1), was[0]);
                        due.is("NEXT for 1", x.state(state, 2), was[1]);
                    }
                }
                due.is("the same once more", x.aim(state, 1, 0), 0);
            }
        }
        TreeActs x = Due.with("o--,s--", "b");
        x.aim(1, 1, 0);
        due.is("it acts so for 1", x.act(0, 0b10, 2), 0b11);
        due.is("it acts not so for 0", x.act(0, 0b00, 2), 0b00);
    }

    private static void aimToNone() {
        due.sentence(19, "(NONE: none)");
        TreeActs x = Due.with("s11,o--", "a");
        due.is("aim(0, 0, NONE)", x.aim(0, 0, Due.NONE), 1);
        due.is("NEXT for 0", x.state(0, 1), Due.NONE);
        due.is("NEXT for 1", x.state(0, 2), 1);
        due.is("again", x.aim(0, 0, Due.NONE), Due.NONE);
        due.is("the others stay", x.act(0, 0b00, 2), 0b00);
        due.is("for 1 they do not", x.act(0, 0b10, 2), 0b11);
        due.is("aim(0, 1, NONE)", x.aim(0, 1, Due.NONE), 1);
        due.is("REACH", x.state(0, 3), 0);
        due.is("the WORD does nothing", x.nothing(0), 1);
        due.is("the WORD is as it was", x.count(3), 1);
    }

    private static void aimOfWrongNumbers() {
        due.sentence(19, "UNKNOWN: state, to (NONE, or one that there is); OUTSIDE: sign (0, 1)");
        for (int states = 1; states <= 6; states += 2) {
            TreeActs x = Due.with(alikeStates(states));
            long before = x.digest();
            for (int state : noStates(states)) {
                due.is("aim(" + state + ", 0, 0)", x.aim(state, 0, 0), Due.UNKNOWN);
                due.is("aim(" + state + ", 2, NONE)", x.aim(state, 2, Due.NONE), Due.UNKNOWN);
            }
            for (int to : noStates(states)) {
                int want = to == Due.NONE ? Due.NONE : Due.UNKNOWN;
                due.is("aim(0, 0, " + to + ")", x.aim(0, 0, to), want);
                due.is("aim(0, 1, " + to + ")", x.aim(0, 1, to), want);
                due.is("aim(0, 2, " + to + ")", x.aim(0, 2, to), to == Due.NONE ? Due.OUTSIDE : Due.UNKNOWN);
            }
            for (int sign : NO_SIGNS) {
                due.is("aim(0, " + sign + ", 0)", x.aim(0, sign, 0), Due.OUTSIDE);
                due.is("aim(0, " + sign + ", NONE)", x.aim(0, sign, Due.NONE), Due.OUTSIDE);
            }
            due.is("nothing is changed", x.digest(), before);
        }
        due.is("aim(0, 0, NONE) without a MACHINE", new TreeActs().aim(0, 0, Due.NONE), Due.UNKNOWN);
        due.is("aim(0, 2, 0) without a MACHINE", new TreeActs().aim(0, 2, 0), Due.UNKNOWN);
    }

    private static void aimOfAStillIsTold() {
        due.sentence(19, "STILL, ONCE: (whatever NEXT is told)");
        TreeActs x = Due.with("r--,o--", "a", "b");
        due.is("aim of a STILL", x.aim(0, 0, 1), Due.NONE);
        due.is("aim of a ONCE", x.aim(1, 0, 1), Due.NONE);
        due.is("is told", x.state(0, 1), 1);
        due.is("is told", x.state(1, 1), 1);
        due.is("all stays", x.act(0, 0b00, 2), 0b00);
        due.is("the others stay", x.act(1, 0b00, 2), 0b10);
        x.change(0, 0);
        due.is("of another KIND it goes on so", x.act(0, 0b00, 2), 0b01);
    }

    // ---- promise 20

    private static void changeEveryKind() {
        due.sentence(20, "A STATE is of another KIND: of which it was");
        // behind 0 the second sign flips, behind 1 it does not
        int[] becomes = {0b01, 0b11, 0b10, 0b00, 0b10};
        for (int from = 0; from < 5; from++) {
            for (int to = 0; to < 5; to++) {
                TreeActs x = Due.with("o--,s--," + KINDS.charAt(from) + "01", "c");
                due.is("change(2, " + to + ")", x.change(2, to), from);
                due.is("KIND", x.state(2, 0), to);
                due.is("NEXT for 0 stays", x.state(2, 1), 0);
                due.is("NEXT for 1 stays", x.state(2, 2), 1);
                due.is("the other ones stay", x.state(0, 0) * 10 + x.state(1, 0), 40);
                due.is("it acts so", x.act(0, 0b00, 2), becomes[to]);
            }
        }
    }

    private static void changeOfWrongNumbers() {
        due.sentence(20, "UNKNOWN; OUTSIDE: kind (0 to 4)");
        for (int states = 1; states <= 6; states++) {
            TreeActs x = Due.with(alikeStates(states));
            long before = x.digest();
            for (int kind : NO_KINDS) {
                due.is("change(0, " + kind + ")", x.change(0, kind), Due.OUTSIDE);
            }
            for (int state : noStates(states)) {
                due.is("change(" + state + ", 0)", x.change(state, 0), Due.UNKNOWN);
                due.is("change(" + state + ", 4)", x.change(state, 4), Due.UNKNOWN);
                due.is("change(" + state + ", 5)", x.change(state, 5), Due.UNKNOWN);
                due.is("change(" + state + ", -1)", x.change(state, -1), Due.UNKNOWN);
            }
            due.is("nothing is changed", x.digest(), before);
        }
        due.is("change(0, 0) without a MACHINE", new TreeActs().change(0, 0), Due.UNKNOWN);
    }

    private static void aimAndChangeTouchTheStateAlone() {
        due.sentence(20, "A NEXT of a STATE is another one; A STATE is of another KIND: and no more");
        TreeActs x = Due.with("s01,f1-,o--", "aB", "cc", "A");
        x.see(0, 0, true);
        x.see(1, 3, false);
        x.image();
        Due.type(x, "xy");
        long before = x.digest();
        x.aim(0, 1, 2);
        x.change(1, 3);
        due.wordIs(x, 0, "aB");
        due.wordIs(x, 1, "cc");
        due.wordIs(x, 2, "A");
        due.is("SEEN", x.count(4), 2);
        due.is("SORTS", x.state(0, 6), 22);
        due.is("SORTS of the changed one", x.state(1, 6), 7);
        due.is("letters of the page", x.count(5), 2);
        due.is("MACHINES read", x.count(6), 1);
        x.aim(0, 1, 1);
        x.change(1, 1);
        due.is("put back, all is as it was", x.digest(), before);
        due.is("the IMAGE is kept", x.restore(), 3);
    }
}
