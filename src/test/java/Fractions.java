/** The calls of the document's face, which the class and the model both answer. */
interface Fractions {
    int begin(int number);

    int digit(int number, int part, int by, int more);

    int set(int number, int part, long v);

    int scale(int number, boolean below, int e);

    int turn(int number);

    int move(int number, boolean down);

    int bits(int number, int part);

    int word(int number, int part, int i);

    int compare();

    long round(int number, boolean up);
}
