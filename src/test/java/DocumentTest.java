import java.io.IOException;
import java.nio.file.Files;
import java.nio.file.Path;

/**
 * The document from its first line to its last, each sentence with its tests. What is not as due is told with
 * its sentence. Sentences that only lead to others, or leave something free, have no test.
 */
public final class DocumentTest {
    private static final StringBuilder QUOTED = new StringBuilder();

    public static void main(String[] args) {
        whatItIs();
        thePublicFace();
        textAndAlphabet();
        packingAndMessages();
        parts();
        inboxAndFaults();
        heaps();
        throwing();
        promisesOfWriting();
        promisesOfPartsMade();
        promisesOfTheInbox();
        notPromised();
        compareWithTheDocument();
        Check.finish("DocumentTest");
    }

    /** A sentence of the document, or a piece of one, and the tests that hold to it. */
    private static void says(String words, Runnable... tests) {
        QUOTED.append(words);
        for (Runnable test : tests) {
            Check.sentence(words, test);
        }
    }

    private static void whatItIs() {
        says("# TextParts ## What it is");
        says("Short messages after a public standard: texts as sevens of bits or pairs of bytes, packed, in parts with "
                + "headers when they are long, without cutting what belongs together; parts from many senders put "
                + "together again in any order; what can't be read and why.",
                SentencesOfTerms::thereAndBack);
        says("An object is used for at most 512 calls after it has been made; what later calls answer is free.",
                SentencesOfTerms::theLastOf512Calls);
    }

    private static void thePublicFace() {
        says("## The public face ```java");
        says("public final class TextParts {", FaceTest::theClass);
        for (String member : FaceTest.MEMBERS) {
            says(member, () -> FaceTest.isThere(member));
        }
        says("} ```", FaceTest::nothingBeside);
    }

    private static void textAndAlphabet() {
        says("## Terms");
        says("A TEXT is up to 3000 UNITS, numbers 0 .. 65535.",
                EdgesOfPromises::putOfWhatIsNoUnit, EdgesOfPromises::putToFull);
        says("THE ALPHABET: 10, 13, 32 and 33 to 90 are SEVENS of the same number, but for 36 (it is 2) and 64 "
                + "(it is 0);",
                SentencesOfTerms::sevensOfTheSameNumber);
        says("97 to 122 of the same number;", SentencesOfTerms::sevensOfSmallLetters);
        says("95 is 17; 163 is 1, 165 is 3, 232 is 4, 233 is 5, 167 is 95, 228 is 123, 246 is 124, 252 is 126.",
                SentencesOfTerms::sevensOfOthers);
        says("With 27 before them (an ESCAPE; both belong together) 94 is 20, 123 is 40, 125 is 41, 92 is 47, 91 is "
                + "60, 126 is 61, 93 is 62, 124 is 64, 8364 is 101.",
                SentencesOfTerms::sevensBehindAnEscape, EdgesOfTerms::togetherByTheAlphabet);
        says("All else is not in it.", SentencesOfTerms::allElse);
        says("READ back, a seven that is none of these is 63,", EdgesOfTerms::sevensThatAreNone);
        says("an escape with a seven that is none of these is that of the seven alone,",
                EdgesOfTerms::escapesWithASevenThatIsNone);
        says("an escape at the end is 32.", EdgesOfTerms::escapesAtTheEnd);
    }

    private static void packingAndMessages() {
        says("PACKING sevens: seven number i stands in bits 7 i to 7 i + 6 of a row of bytes, bit 0 the lowest of the "
                + "first byte,",
                SentencesOfTerms::bitsOfEachSeven);
        says("in as few bytes as hold them; bits that are left are 0.",
                SentencesOfTerms::asFewBytes, EdgesOfTerms::bitsThatAreLeft);
        says("A MESSAGE of a text: by the alphabet, if all its units are in it, else by PAIRS of bytes (the high one "
                + "first);",
                SentencesOfTerms::byTheAlphabetOrByPairs);
        says("what belongs together with pairs are a unit 55296 .. 56319 and one 56320 .. 57343 behind it.",
                EdgesOfTerms::togetherByPairs);
        says("One PART if it is not more than 160 sevens, or 140 bytes;", EdgesOfTerms::onePart);
        says("otherwise parts with HEADERS, each as long as may be, but not more than 153 sevens or 134 bytes,",
                EdgesOfTerms::partsWithHeaders);
        says("cut so that what belongs together stays so;",
                EdgesOfTerms::togetherByTheAlphabet, EdgesOfTerms::togetherByPairs);
        says("255 parts at most.", EdgesOfTerms::partsAtMost);
    }

    private static void parts() {
        says("```text A PART is bytes: the first one is 1 if it has a header, else 0, and 4 more by pairs;",
                SentencesOfTerms::theFirstByte);
        says("the second one is, by pairs, how many bytes of contents follow, by the alphabet, how many sevens they "
                + "hold (a header counts as seven of them);",
                SentencesOfTerms::theSecondByte);
        says("then the contents.", SentencesOfTerms::theContents);
        says("With a header these begin with the bytes 5, 0, 3, a REFERENCE (0 .. 255), how many parts, which one it "
                + "is (1, 2, ..).",
                SentencesOfTerms::theHeader);
        says("By the alphabet, the sevens behind a header begin at bit 49 of the contents (as if it were seven "
                + "sevens), the bit between is 0.",
                SentencesOfTerms::sevensBehindAHeader, EdgesOfTerms::theBitBetween);
        says("References are 0, 1, .. and 0 again behind 255, of each message in parts one more. ```",
                EdgesOfTerms::references);
    }

    private static void inboxAndFaults() {
        says("THE INBOX has up to 16 HEAPS, each of a sender 0 .. 999, a reference, and how many parts;",
                SentencesOfTerms::heapsAreOfThree);
        says("parts without header are done at once.", SentencesOfTerms::partsWithoutHeader);
        says("READING a part of a sender, the first FAULT that fits:", EdgesOfTerms::theFirstFault);
        says("1: there are less than two bytes.", EdgesOfTerms::fault1);
        says("2: the first one is none of 0, 1, 4, 5.", EdgesOfTerms::fault2);
        says("3: the second one is above 160 sevens or 140 bytes, or not just as many bytes follow as that needs.",
                EdgesOfTerms::fault3BySevens, EdgesOfTerms::fault3ByPairs);
        says("4: with a header, it is not whole,", EdgesOfTerms::fault4NotWhole);
        says("the first three are not 5, 0, 3,", EdgesOfTerms::fault4FirstThree);
        says("there are 0 parts, the part is 0 or above how many there are.", EdgesOfTerms::fault4Numbers);
        says("5: by pairs, an odd number of bytes of text.", EdgesOfTerms::fault5);
        says("6: bits that are left at the end, or that between, are not 0.",
                EdgesOfTerms::fault6AtTheEnd, EdgesOfTerms::fault6Between);
    }

    private static void heaps() {
        says("```text A part of a heap that is there, with a number that is not in it, is put there;",
                SentencesOfTerms::aPartIsPutToItsHeap);
        says("one that is there already is dropped.", EdgesOfTerms::aPartThatIsThere);
        says("One without a heap begins one; in place of the one to which nothing was put for longest, if there are "
                + "16.",
                EdgesOfTerms::theHeapThatGivesWay, EdgesOfTerms::nothingGivesWayBelowSixteen,
                EdgesOfTerms::whatCountsAsPut);
        says("When all are there the text of a heap is that of its parts one behind the other (each one read by "
                + "itself), and the heap is gone.",
                SentencesOfTerms::theTextOfAHeap);
        says("A text that is done is the latest. ```", SentencesOfTerms::theLatestText);
    }

    private static void throwing() {
        says("A call that throws changes nothing.", EdgesOfTerms::callsThatThrow, EdgesOfTerms::fullCallsThatThrow,
                EdgesOfTerms::throwingIsNotPutting);
        says("IllegalArgumentException: there is no such part or byte, or a number is not as it may be.",
                SentencesOfTerms::argumentsThatMayNotBe);
    }

    private static void promisesOfWriting() {
        says("## Promise 1: A new object `TextParts()`:");
        says("No text, no parts, an empty inbox, reference 0.", EdgesOfPromises::newObject);

        says("## Promise 2: put `int put(int unit) throws IllegalArgumentException, IllegalStateException`:");
        says("A unit comes behind the text: how many there are.", SentencesOfPromises::putBehindTheText);
        says("IllegalArgumentException: it is not 0 .. 65535;", EdgesOfPromises::putOfWhatIsNoUnit);
        says("IllegalStateException: there are 3000.", EdgesOfPromises::putToFull);

        says("## Promise 3: clear `int clear()`:");
        says("The text is empty: how many units there were.", EdgesOfPromises::clear);

        says("## Promise 4: about `int about(int what) throws IllegalArgumentException`:");
        says("How many sevens the text takes (what = 0; NONE if not all is in the alphabet),",
                SentencesOfPromises::aboutSevensOfMore, EdgesOfPromises::aboutSevens);
        says("how many parts its message would have (1; 0 if more than 255),",
                SentencesOfPromises::aboutPartsThatWouldBe, EdgesOfPromises::aboutParts);
        says("units (2),", SentencesOfPromises::aboutSevensOfMore);
        says("the next reference (3),", SentencesOfPromises::aboutTheNextReference);
        says("parts made (4),", SentencesOfPromises::aboutPartsMade);
        says("heaps (5), units of the latest text (6),", SentencesOfPromises::aboutHeapsAndLatest);
        says("bytes at hand (7).", SentencesOfPromises::aboutBytesAtHand);
        says("IllegalArgumentException.", EdgesOfPromises::aboutWhat);
    }

    private static void promisesOfPartsMade() {
        says("## Promise 5: make `int make() throws UnsupportedOperationException`:");
        says("The text's message becomes the parts made (in place of those before),",
                EdgesOfPromises::makeOfNoText, EdgesOfPromises::makeInPlace);
        says("a reference is used if there are headers:", EdgesOfPromises::makeUsesAReference);
        says("how many.", SentencesOfPromises::makeHowMany);
        says("UnsupportedOperationException: more than 255.", EdgesOfPromises::makeOfMoreThan255);

        says("## Promise 6: length `int length(int part) throws IllegalArgumentException`:");
        says("How many bytes a part made has (from 0 on). IllegalArgumentException.",
                SentencesOfTerms::theSecondByte, EdgesOfPromises::lengthFromZeroOn);

        says("## Promise 7: byteOf `int byteOf(int part, int i) throws IllegalArgumentException`:");
        says("Byte i of a part made; NONE behind it.", EdgesOfPromises::byteOfBehind);
        says("IllegalArgumentException: there is no such part.", EdgesOfPromises::byteOfNoPart);

        says("## Promise 8: take `int take(int sender, int part) throws IllegalArgumentException`:");
        says("A part made is read by the inbox, of a sender, as it is:", SentencesOfPromises::takeAsItIs);
        says("0 if it is kept or dropped, 1 if a text is done by it,", EdgesOfPromises::takeAnswers);
        says("or the FAULT, below 0.", EdgesOfPromises::takeFaults);
        says("IllegalArgumentException.", EdgesOfPromises::takeOfNoSender, EdgesOfPromises::takeOfNoPart);

        says("## Promise 9: alter `int alter(int part, int i, int b) throws IllegalArgumentException`:");
        says("Byte i of a part made becomes another one: what it was.", SentencesOfPromises::alterWhatItWas);
        says("IllegalArgumentException.", EdgesOfPromises::alterOfNoPartOrByte, EdgesOfPromises::alterToNoByte);
    }

    private static void promisesOfTheInbox() {
        says("## Promise 10: feed `int feed(long w, int n) throws IllegalArgumentException, IllegalStateException`:");
        says("n bytes, the lowest of w first, come behind those at hand: how many there are.",
                EdgesOfPromises::feedTheLowestFirst, EdgesOfPromises::feedOfNone, SentencesOfPromises::feedHowMany);
        says("IllegalArgumentException: n is not 0 .. 8;", EdgesOfPromises::feedOfHowMany);
        says("IllegalStateException: there would be more than 200.", EdgesOfPromises::feedToFull);

        says("## Promise 11: read `int read(int sender) throws IllegalArgumentException`:");
        says("The bytes at hand are read as a part of a sender, and are gone:",
                EdgesOfPromises::readAndGone, EdgesOfPromises::readOfNone);
        says("as take().", SentencesOfPromises::readAsTake);
        says("IllegalArgumentException.", EdgesOfPromises::readOfNoSender);

        says("## Promise 12: unit `int unit(int i)`:");
        says("Unit i of the latest text that was done; NONE behind it.",
                EdgesOfPromises::unitBehind, EdgesOfPromises::unitOfNoText);

        says("## Promise 13: heap `int heap(int i, int what) throws IllegalArgumentException`:");
        says("Of heap i, the one begun first of all first: its sender (what = 0), reference (1), how many parts (2), "
                + "how many of them are there (3);",
                EdgesOfPromises::heapInOrder);
        says("NONE if there is none.", EdgesOfPromises::heapOfNone);
        says("IllegalArgumentException: what is none of these.", EdgesOfPromises::heapWhat);

        says("## Promise 14: forget `int forget(int sender) throws IllegalArgumentException`:");
        says("All heaps of a sender are gone: how many.",
                EdgesOfPromises::forgetHowMany, EdgesOfPromises::forgetOfNone);
        says("IllegalArgumentException.", EdgesOfPromises::forgetOfNoSender);
    }

    private static void notPromised() {
        says("## Not promised");
        says("How the state is held inside the object is free, as are the speed of each call, the text of toString and "
                + "the behaviour of equals and hashCode. Use of one object from several threads at once is not promised "
                + "to be safe. Nothing is promised beyond the answers and state changes described above, and nothing "
                + "about an object after its 512th call.");
    }

    /**
     * Tells where the document says something else than is quoted here, so that no sentence is left out unseen.
     * It is no failure: a word that is changed there breaks no promise of the class.
     */
    private static void compareWithTheDocument() {
        String quoted = withoutSpace(QUOTED.toString());
        String document;
        try {
            document = withoutSpace(Files.readString(Path.of("../shared/DOC.md")));
        } catch (IOException e) {
            System.out.println("DocumentTest: ../shared/DOC.md can't be read, so its words are not compared");
            return;
        }
        int same = 0;
        while (same < quoted.length() && same < document.length() && quoted.charAt(same) == document.charAt(same)) {
            same++;
        }
        if (same < quoted.length() || same < document.length()) {
            System.out.println("DocumentTest: the document has other words than are quoted here, from .."
                    + document.substring(Math.max(0, same - 40), Math.min(document.length(), same + 40)));
        }
    }

    private static String withoutSpace(String words) {
        return words.replaceAll("\\s", "");
    }
}
