import java.util.List;

/** What the tests of the document's sentences share: the sentence that is being tested, and the count of what fails. */
abstract class Edges {
  static final String INDEX = "IndexOutOfBoundsException";
  static final String ARGUMENT = "IllegalArgumentException";
  static final String STATE = "IllegalStateException";
  static final String UNSUPPORTED = "UnsupportedOperationException";
  static final String MISSING = "NoSuchElementException";
  static final String ARITHMETIC = "ArithmeticException";

  static final String NO_POLY = "Throws `IndexOutOfBoundsException` if there is no such polynomial";
  static final String NO_MATRIX = "Throws `IndexOutOfBoundsException` if there is no such matrix";
  static final String TRIANGLE = "0 0 0|1 0 0|0 1 0";

  private static Doc doc;
  private static String sentence = "";
  private static int sentences;
  private static int checksOfSentence;
  private static int checks;
  private static int wrong;

  static void start(Doc read) {
    doc = read;
  }

  static void promise(int number, String words) {
    open("promise " + number + ", \"" + words + "\"");
    if (!doc.name(number, words)) {
      fail("the document does not say so there");
    }
  }

  static void terms(String words) {
    open("terms, \"" + words + "\"");
    if (!doc.name(words)) {
      fail("the document does not say so");
    }
  }

  /** For words that leave something free, so that no test could fail by them. */
  static void free(String words) {
    if (!doc.name(words)) {
      fail("the document does not say: " + words);
    }
  }

  private static void open(String next) {
    if (sentences > 0 && checksOfSentence == 0) {
      fail("has no check");
    }
    sentence = next;
    sentences++;
    checksOfSentence = 0;
  }

  static void check(boolean isDue, String what) {
    checks++;
    checksOfSentence++;
    if (!isDue) {
      fail(what);
    }
  }

  private static void fail(String what) {
    wrong++;
    if (wrong <= 60) {
      System.out.println(sentence + ": " + what);
    }
  }

  /** The number of failures, once each sentence of the document that none has named is counted, too. */
  static int finish() {
    open("the end");
    for (String each : doc.unnamed()) {
      fail("without a test: " + each);
    }
    System.out.println("edges: " + (sentences - 1) + " sentences, " + checks + " checks, " + wrong + " wrong");
    return wrong;
  }

  /** Tests the numbers of polynomials at one place (@) of a call: none there, two, and as many as there can be. */
  static void polyNumbers(int promise, String parameter, String pattern, String polynomial) {
    String[] terms = polynomial.split("\\|");
    Bench full = new Bench();
    for (int number = 0; number < 10; number++) {
      full.poly(terms);
    }
    promise(promise, NO_POLY);
    new Bench().poly(terms).poly(terms).outside(INDEX, pattern, 0, 1);
    new Bench().outside(INDEX, pattern, 0, -1);
    full.refused(INDEX, pattern, 10, -1);
    promise(promise, parameter);
    new Bench().poly(terms).poly(terms).answers(pattern, 0, 1);
    if (List.of("sum", "product").contains(pattern.substring(0, pattern.indexOf('(')))) {
      full.refused(STATE, pattern, 9);
    } else {
      full.answers(pattern, 9, 0);
    }
  }

  /** Likewise for matrices. */
  static void matrixNumbers(int promise, String parameter, String pattern, String... rows) {
    Bench full = new Bench();
    for (int number = 0; number < 12; number++) {
      full.matrix(rows);
    }
    promise(promise, NO_MATRIX);
    new Bench().matrix(rows).matrix(rows).outside(INDEX, pattern, 0, 1);
    new Bench().outside(INDEX, pattern, 0, -1);
    full.refused(INDEX, pattern, 12, -1);
    promise(promise, parameter);
    new Bench().matrix(rows).matrix(rows).answers(pattern, 0, 1);
    if (List.of("plus", "times", "star").contains(pattern.substring(0, pattern.indexOf('(')))) {
      full.refused(STATE, pattern, 11);
    } else {
      full.answers(pattern, 11, 0);
    }
  }
}
