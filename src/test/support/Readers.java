/** Moves of readers that several tests use. */
final class Readers {
    /** Takes rows of a and b with an even number of b (2 states, the first one takes). */
    static final String EVEN = "0 first right to 0;0 a right to 0;0 b right to 1;1 a right to 1;1 b right to 0";
    /** Goes to the right over all letters (1 state). */
    static final String ONWARD = "0 first right to 0;0 a right to 0;0 b right to 0;0 c right to 0";
    /** Goes to the right and says each letter (1 state). */
    static final String ECHO = "0 first right to 0;0 a right to 0 say a;0 b right to 0 say b;0 c right to 0 say c";
    /** To the right end, back, saying the row backwards, and to the right end again (3 states, the last one takes). */
    static final String BACKWARDS = ONWARD + ";0 last left to 1;1 a left to 1 say a;1 b left to 1 say b;1 c left to 1 say c;"
        + "1 first right to 2;2 a right to 2;2 b right to 2;2 c right to 2";
    /** Of rows ab, abab .. it comes to all places in all of 5 states, and says an a by each move; it stops in state 4. */
    static final String ALL_PLACES = "0 first right to 0 say a;1 first right to 1 say a;2 first right to 2 say a;"
        + "3 first right to 3 say a;4 first right to 4 say a;0 a left to 1 say a;1 a left to 2 say a;2 a left to 3 say a;"
        + "3 a left to 4 say a;4 a right to 0 say a;0 b right to 0 say a;1 b right to 1 say a;2 b right to 2 say a;"
        + "3 b right to 3 say a;4 b right to 4 say a;0 last left to 1 say a;1 last left to 2 say a;2 last left to 3 say a;"
        + "3 last left to 4 say a";
    /** 801 kinds of tables (4 states). */
    static final String KINDS_801 = "0 a right to 3;0 b left to 1;0 c right to 3;0 first right to 1;0 last left to 3;"
        + "1 a left to 3;1 b left to 1;1 c left to 2;1 last left to 1;2 a left to 2;2 b left to 2;2 c right to 0;"
        + "3 a left to 1;3 c left to 3;3 first right to 3";
    /** 800 kinds of tables (4 states). */
    static final String KINDS_800 = "0 a left to 3;0 b left to 0;0 c left to 3;0 first right to 3;1 a right to 0;"
        + "1 b right to 0;1 last left to 1;2 a left to 3;2 b right to 1;2 c right to 2;2 last left to 0;3 a right to 2;"
        + "3 b left to 3;3 c left to 0;3 last left to 3";
    /** With PAIRS_4000_OTHER 4000 pairs of what beginnings do (5 states each). */
    static final String PAIRS_4000 = "0 a left to 2;0 c left to 4;0 first right to 1;0 last left to 0;1 a left to 2;"
        + "1 b left to 3;1 c left to 3;1 first right to 1;2 a left to 0;2 b right to 2;2 c left to 2;2 first right to 1;"
        + "2 last left to 4;3 a left to 3;3 b left to 4;3 c left to 1;3 first right to 2;4 a left to 4;4 b left to 0;"
        + "4 c left to 3;4 first right to 3;4 last left to 1";
    static final String PAIRS_4000_OTHER = "0 a left to 1;0 b right to 2;0 c right to 0;0 first right to 3;1 a left to 4;"
        + "1 b left to 3;1 c left to 0;1 first right to 2;2 a right to 2;2 c left to 4;2 first right to 1;2 last left to 0;"
        + "3 a left to 3;3 b left to 4;3 c left to 3;3 first right to 2;3 last left to 3;4 a left to 2;4 b left to 0;"
        + "4 c left to 1;4 first right to 0;4 last left to 0";
    /** With PAIRS_4001_OTHER 4001 pairs (5 states each). */
    static final String PAIRS_4001 = "0 a right to 3;0 b left to 1;0 c right to 4;0 first right to 4;1 a left to 1;"
        + "1 b left to 0;1 c left to 3;1 first right to 2;1 last left to 0;2 a right to 4;2 b right to 1;2 c right to 2;"
        + "2 first right to 0;2 last left to 1;3 a left to 3;3 b left to 3;3 c left to 0;3 last left to 4;4 a right to 2;"
        + "4 b right to 2;4 c right to 0;4 first right to 0;4 last left to 3";
    static final String PAIRS_4001_OTHER = "0 a left to 0;0 b right to 2;0 c right to 0;0 first right to 1;0 last left to 1;"
        + "1 a right to 4;1 b right to 1;1 c left to 0;1 last left to 1;2 a left to 3;2 b left to 3;2 c right to 1;"
        + "2 first right to 3;3 a left to 4;3 b left to 4;3 c left to 2;3 last left to 3;4 a left to 2;4 b right to 0;"
        + "4 c left to 3;4 first right to 0;4 last left to 3";
    /** Counts letters by five (5 states). */
    static final String BY_FIVE = "0 first right to 0;0 a right to 1;1 a right to 2;2 a right to 3;3 a right to 4;4 a right to 0;"
        + "0 b right to 1;1 b right to 2;2 b right to 3;3 b right to 4;4 b right to 0;"
        + "0 c right to 1;1 c right to 2;2 c right to 3;3 c right to 4;4 c right to 0";
    /** With state 3 that takes: the shortest row of it has 13 letters, and no other one of 13 is taken. */
    static final String FAR_TAKEN = "0 a left to 4;0 b left to 1;0 c left to 0;0 first right to 2;0 last left to 1;"
        + "1 a right to 1;1 b left to 3;1 c right to 1;2 a left to 0;2 b right to 2;2 c left to 2;2 last left to 1;"
        + "3 a right to 4;3 b right to 4;3 c left to 4;3 first right to 1;4 a left to 2;4 b right to 1;4 c right to 3;"
        + "4 first right to 3";
    static final String FAR_ROW = "bbbacacacacbc";
    /** The shortest row that this one goes around on has 13 letters (5 states). */
    static final String FAR_AROUND = "0 a right to 3;0 b right to 3;0 first right to 0;1 a left to 1;1 b left to 2;"
        + "1 c right to 3;1 last left to 3;2 a right to 4;2 c left to 0;2 first right to 2;2 last left to 2;3 a right to 0;"
        + "3 b right to 2;3 first right to 3;4 b left to 1;4 c right to 0;4 first right to 1";
    static final String FAR_AROUND_ROW = "abacababaabab";
    /** Of this one beginnings do 769 things unlike, and more than that no reader of five states can have. */
    static final String BROAD = "0 a right to 1;0 b left to 4;0 c right to 1;0 first right to 0;0 last left to 3;"
        + "1 a right to 3;1 b right to 1;1 c right to 0;1 first right to 4;1 last left to 1;2 a left to 2;2 b left to 2;"
        + "2 c left to 3;2 last left to 2;3 a left to 3;3 b right to 0;3 c left to 4;3 first right to 1;3 last left to 0;"
        + "4 a left to 4;4 b left to 3;4 c left to 2;4 first right to 2;4 last left to 1";

    /** 83 states of the least reader that goes only to the right: more have not been found for five states. */
    static final String DEEP = "0 a right to 0;0 b right to 1;0 c right to 1;0 first right to 3;0 last left to 3;"
        + "1 a right to 1;1 b right to 0;1 c right to 2;2 a right to 2;2 b right to 2;2 c right to 0;2 first right to 3;"
        + "2 last left to 2;3 a left to 1;3 b left to 3;3 c left to 4;3 first right to 4;3 last left to 0;4 a left to 3;"
        + "4 b left to 4;4 c left to 1;4 first right to 0;4 last left to 0";

    private Readers() {
    }
}
