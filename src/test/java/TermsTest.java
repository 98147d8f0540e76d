/** The terms that the promises rest on, sentence by sentence. */
public final class TermsTest {
    public static void main(String[] args) {
        Sentences terms = new Sentences("Terms");
        things(terms);
        made(terms);
        calls(terms);
        forms(terms);
        actsAndRefusals(terms);
        terms.end();
    }

    private static void things(Sentences terms) {
        terms.holds("KINDS are 0 SYSTEM, 1 WORLD, 2 BUS, 3 TESTER, 4 PACKAGE, 5 FLEET.", TermsOfThings::kinds);
        terms.holds("A thing's NUMBER is 64 times its KIND and 1, 2, .. in the order in which things of its KIND"
            + " were made", TermsOfThings::numbersInOrder);
        terms.holds("20 at most of each", TermsOfThings::twentyAtMost);
        terms.holds("(those that are gone, too).", TermsOfThings::goneOnesCount);
        terms.holds("It has a STATE (64 bits, wrapping)", TermsOfThings::stateWraps);
        terms.holds("and TURNS, 0 at first.", TermsOfThings::turnsAtFirst);
        terms.holds("COLLECTED are letters (0 .. 127)", () -> TermsOfThings.collected(0, 127));
        terms.holds("bits (0, 1)", () -> TermsOfThings.collected(1, 1));
        terms.holds("bytes (0 .. 255)", () -> TermsOfThings.collected(2, 255));
        terms.holds("200 of each at most.", TermsOfThings::twoHundredAtMost);
    }

    private static void made(Sentences terms) {
        terms.holds("A thing IS MADE: a SYSTEM of the letters: its STATE is, from 7 on, for each letter 31 times it"
            + " and the letter.", TermsOfThings::systemOfLetters);
        terms.holds("A BUS of the bits: 1000 times how many are 1", TermsOfThings::busOfOnes);
        terms.holds("and how many are others than the one before.", TermsOfThings::busOfOthers);
        terms.holds("A PACKAGE of the bytes: 65536 b + a, a being 1 and all bytes", TermsOfThings::packageOfBytes);
        terms.holds("b the sum of all values that a has behind each of them, both modulo 65521.",
            TermsOfThings::packageModulo);
        terms.holds("These need one at least", TermsOfThings::oneAtLeast);
        terms.holds("and are gone then (those of their sort).", TermsOfThings::goneThen);
        terms.holds("A WORLD of the SYSTEM that was made last of those that are there: its STATE then.",
            TermsOfThings::worldOfSystem);
        terms.holds("A TESTER of the WORLD that was made last of those that are there: STATE 0.",
            TermsOfThings::testerOfWorld);
        terms.holds("A FLEET: how many WORLDS are there", TermsOfThings::fleetOfWorlds);
        terms.holds("WORLDS are there, one at least.", TermsOfThings::fleetOfOneAtLeast);
    }

    private static void calls(Sentences terms) {
        terms.holds("CALLS are 0 .. 23:", TermsOfCalls::calls);
        terms.holds("call c is for things of the KIND c modulo 6, and its FORM is c / 6.", TermsOfCalls::kindAndForm);
        terms.holds("Each has an ANSWER (a number, 0 at first)", TermsOfCalls::answerAtFirst);
        terms.holds("and a FAILURE (0 none, at first; 1 to 4).", TermsOfCalls::failureAtFirst);
    }

    private static void forms(Sentences terms) {
        terms.holds("With a, a number: FORM 0 ASKS: the STATE and the ANSWER.", TermsOfCalls::asks);
        terms.holds("1 SETS: the STATE becomes a; what it was.", TermsOfCalls::sets);
        terms.holds("2 STEPS: TURNS is one more, and the STATE becomes", TermsOfCalls::oneMoreTurn);
        terms.holds("of a SYSTEM, it xor a;", TermsOfCalls::stepsSystem);
        terms.holds("of a WORLD 31 times it and a and the ANSWER;", TermsOfCalls::stepsWorld);
        terms.holds("of a BUS it turned to the left by the lowest six bits of a;", TermsOfCalls::stepsBus);
        terms.holds("of a TESTER it, the STATE of its WORLD and a together;", TermsOfCalls::stepsTester);
        terms.holds("of a PACKAGE it and a times the ANSWER;", TermsOfCalls::stepsPackage);
        terms.holds("of a FLEET the STATES of all WORLDS that are there and a together;", TermsOfCalls::stepsFleet);
        terms.holds("TURNS is answered.", TermsOfCalls::turnsAnswered);
        terms.holds("3 COMPARES with the thing of NUMBER a: 0 if its STATE is less than that one's",
            TermsOfCalls::comparesLess);
        terms.holds("1 if it is the same", TermsOfCalls::comparesSame);
        terms.holds("2 if it is greater.", TermsOfCalls::comparesGreater);
        terms.holds("A call with a FAILURE is done, then the part throws: all is as it was before;",
            TermsOfCalls::failedChangesNothing);
        terms.holds("-100 less the FAILURE is answered", TermsOfCalls::failedAnswers);
        terms.holds("and that it FAILED is told.", TermsOfCalls::failedIsTold);
    }

    private static void actsAndRefusals(Sentences terms) {
        terms.holds("ACTS that were not refused are noted (collect(), answer(), fails(), make(), call()",
            TermsOfActs::noted);
        terms.holds("(FAILED ones, too)", TermsOfActs::failedAreNoted);
        terms.holds("drop()).", TermsOfActs::dropsAreNoted);
        terms.holds("REFUSALS change nothing but how many there were", TermsOfActs::refusalsChangeNothing);
        terms.holds("and answer, the first that fits: -1 an unknown number", TermsOfActs::unknownFirst);
        terms.holds("-2 outside a range", TermsOfActs::outsideBeforeStateAndRoom);
        terms.holds("-3 not in this state", TermsOfActs::stateBeforeRoom);
        terms.holds("-4 no room.", TermsOfActs::noRoom);
    }
}
