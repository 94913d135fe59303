/** Each line that a text may have, token by token. */
final class Lines {
    static final String NUMBER = "N";
    static final String OFFENCE = "O";
    static final String[] OFFENCES = {"theft", "lie", "speed", "insult"};

    /** By the sort of the text: the lines without their last token, which is ';'. */
    static final String[][][] BY_SORT = {
        {{"person", NUMBER}, {"poor", NUMBER}, {"caught", NUMBER}, {"door", NUMBER}, {"work", NUMBER},
            {"child", NUMBER, NUMBER}, {"pass", NUMBER, NUMBER}, {"costs", OFFENCE, NUMBER},
            {"wish", NUMBER, OFFENCE, NUMBER}},
        {{"fine", NUMBER, OFFENCE}, {"bail", NUMBER, OFFENCE}, {"give", NUMBER, NUMBER},
            {"stretch", NUMBER, NUMBER}, {"gift", NUMBER, NUMBER, NUMBER}},
        {{"got", NUMBER, NUMBER}, {"owed", NUMBER}},
        {{"tall", NUMBER, NUMBER}}
    };

    private Lines() {
    }
}
