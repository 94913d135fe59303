set_option maxRecDepth 100000 in
theorem tbI_0 : ∀ w ∈ TB_0, w ∈ lw_tbl := fun w h => ((goodIn_r (big := lw_tbl) TB_0 (264 :: 266 :: 268 :: 270 :: 272 :: 304 :: 324 :: 346 :: 375 :: 377 :: 379 :: 428 :: 430 :: 432 :: 434 :: 436 :: 438 :: 440 :: 442 :: 444 :: 446 :: 466 :: 468 :: 484 :: 486 :: 505 :: 527 :: 1376 :: 1396 :: 1398 :: []) (by decide +kernel) (by decide +kernel)) w h).1
set_option maxRecDepth 100000 in
theorem tbI_1 : ∀ w ∈ TB_1, w ∈ lw_tbl := fun w h => ((goodIn_r (big := lw_tbl) TB_1 (1400 :: 1402 :: 1404 :: 1406 :: 1408 :: 1410 :: 1412 :: 1418 :: 1420 :: 1422 :: 1424 :: 1426 :: 1428 :: 1432 :: 1442 :: 1446 :: 1458 :: 250 :: 252 :: 254 :: 256 :: 258 :: 260 :: 262 :: 296 :: 298 :: 300 :: 302 :: 322 :: 342 :: []) (by decide +kernel) (by decide +kernel)) w h).1
set_option maxRecDepth 100000 in
theorem tbI_2 : ∀ w ∈ TB_2, w ∈ lw_tbl := fun w h => ((goodIn_r (big := lw_tbl) TB_2 (344 :: 363 :: 365 :: 367 :: 369 :: 371 :: 373 :: 418 :: 420 :: 422 :: 424 :: 426 :: 460 :: 462 :: 464 :: 482 :: 499 :: 501 :: 503 :: 519 :: 521 :: 523 :: 525 :: 540 :: 542 :: 544 :: 555 :: 557 :: 559 :: 561 :: []) (by decide +kernel) (by decide +kernel)) w h).1
set_option maxRecDepth 100000 in
theorem tbI_3 : ∀ w ∈ TB_3, w ∈ lw_tbl := fun w h => ((goodIn_r (big := lw_tbl) TB_3 (563 :: 565 :: 567 :: 569 :: 1378 :: 1380 :: 1382 :: 1384 :: 1386 :: 1388 :: 1390 :: 1392 :: 1394 :: 1414 :: 1416 :: 1430 :: 1434 :: 1436 :: 1438 :: 1440 :: 1444 :: 1448 :: 1450 :: 1452 :: 1454 :: 1456 :: 1460 :: 1462 :: 1464 :: 149 :: []) (by decide +kernel) (by decide +kernel)) w h).1
set_option maxRecDepth 100000 in
theorem tbI_4 : ∀ w ∈ TB_4, w ∈ lw_tbl := fun w h => ((goodIn_r (big := lw_tbl) TB_4 (150 :: 151 :: 152 :: 153 :: 154 :: 155 :: 156 :: 157 :: 158 :: 159 :: 160 :: 161 :: 162 :: 163 :: 164 :: 165 :: 166 :: 167 :: 168 :: 169 :: 170 :: 173 :: 174 :: 175 :: 176 :: 177 :: 178 :: 182 :: 183 :: 184 :: []) (by decide +kernel) (by decide +kernel)) w h).1
set_option maxRecDepth 100000 in
theorem tbI_5 : ∀ w ∈ TB_5, w ∈ lw_tbl := fun w h => ((goodIn_r (big := lw_tbl) TB_5 (188 :: 189 :: 190 :: 191 :: 192 :: 193 :: 194 :: 195 :: 196 :: 197 :: 198 :: 201 :: 202 :: 203 :: 204 :: 205 :: 206 :: 207 :: 208 :: 209 :: 210 :: 211 :: 212 :: 213 :: 214 :: 215 :: 216 :: 217 :: 218 :: 219 :: []) (by decide +kernel) (by decide +kernel)) w h).1
set_option maxRecDepth 100000 in
theorem tbI_6 : ∀ w ∈ TB_6, w ∈ lw_tbl := fun w h => ((goodIn_r (big := lw_tbl) TB_6 (220 :: 221 :: 222 :: 223 :: 224 :: 225 :: 226 :: 227 :: 228 :: 229 :: 230 :: 231 :: 232 :: 233 :: 234 :: 235 :: 236 :: 237 :: 238 :: 239 :: 240 :: 241 :: 242 :: 243 :: 244 :: 245 :: 246 :: 247 :: 248 :: 249 :: []) (by decide +kernel) (by decide +kernel)) w h).1
set_option maxRecDepth 100000 in
theorem tbI_7 : ∀ w ∈ TB_7, w ∈ lw_tbl := fun w h => ((goodIn_r (big := lw_tbl) TB_7 (275 :: 276 :: 281 :: 282 :: 283 :: 284 :: 285 :: 286 :: 287 :: 288 :: 289 :: 290 :: 291 :: 292 :: 293 :: 294 :: 295 :: 311 :: 312 :: 313 :: 314 :: 315 :: 316 :: 317 :: 318 :: 319 :: 320 :: 321 :: 331 :: 332 :: []) (by decide +kernel) (by decide +kernel)) w h).1
set_option maxRecDepth 100000 in
theorem tbI_8 : ∀ w ∈ TB_8, w ∈ lw_tbl := fun w h => ((goodIn_r (big := lw_tbl) TB_8 (333 :: 334 :: 335 :: 336 :: 337 :: 338 :: 339 :: 340 :: 341 :: 349 :: 350 :: 351 :: 352 :: 353 :: 354 :: 355 :: 356 :: 357 :: 358 :: 359 :: 360 :: 361 :: 362 :: 386 :: 387 :: 388 :: 390 :: 397 :: 398 :: 399 :: []) (by decide +kernel) (by decide +kernel)) w h).1
set_option maxRecDepth 100000 in
theorem tbI_9 : ∀ w ∈ TB_9, w ∈ lw_tbl := fun w h => ((goodIn_r (big := lw_tbl) TB_9 (400 :: 401 :: 402 :: 403 :: 404 :: 405 :: 406 :: 407 :: 408 :: 409 :: 410 :: 411 :: 412 :: 413 :: 414 :: 415 :: 416 :: 417 :: 452 :: 453 :: 454 :: 455 :: 456 :: 457 :: 458 :: 459 :: 474 :: 475 :: 476 :: 477 :: []) (by decide +kernel) (by decide +kernel)) w h).1
set_option maxRecDepth 100000 in
theorem tbI_10 : ∀ w ∈ TB_10, w ∈ lw_tbl := fun w h => ((goodIn_r (big := lw_tbl) TB_10 (478 :: 479 :: 480 :: 481 :: 492 :: 493 :: 494 :: 495 :: 496 :: 497 :: 498 :: 511 :: 512 :: 513 :: 514 :: 515 :: 516 :: 517 :: 518 :: 530 :: 534 :: 535 :: 536 :: 537 :: 538 :: 539 :: 547 :: 548 :: 549 :: 550 :: []) (by decide +kernel) (by decide +kernel)) w h).1
set_option maxRecDepth 100000 in
theorem tbI_11 : ∀ w ∈ TB_11, w ∈ lw_tbl := fun w h => ((goodIn_r (big := lw_tbl) TB_11 (551 :: 552 :: 553 :: 554 :: 572 :: 573 :: 574 :: 575 :: 576 :: 577 :: 578 :: 579 :: 580 :: 581 :: 582 :: 583 :: 584 :: 585 :: 586 :: 587 :: 588 :: 589 :: 590 :: 591 :: 592 :: 594 :: 595 :: 596 :: 597 :: 598 :: []) (by decide +kernel) (by decide +kernel)) w h).1
set_option maxRecDepth 100000 in
theorem tbI_12 : ∀ w ∈ TB_12, w ∈ lw_tbl := fun w h => ((goodIn_r (big := lw_tbl) TB_12 (599 :: 600 :: 602 :: 603 :: 604 :: 605 :: 606 :: 607 :: 608 :: 609 :: 610 :: 611 :: 612 :: 613 :: 615 :: 616 :: 617 :: 619 :: 620 :: 621 :: 622 :: 623 :: 624 :: 625 :: 626 :: 627 :: 629 :: 630 :: 631 :: 633 :: []) (by decide +kernel) (by decide +kernel)) w h).1
set_option maxRecDepth 100000 in
theorem tbI_13 : ∀ w ∈ TB_13, w ∈ lw_tbl := fun w h => ((goodIn_r (big := lw_tbl) TB_13 (634 :: 635 :: 637 :: 638 :: 639 :: 640 :: 641 :: 642 :: 643 :: 644 :: 645 :: 646 :: 647 :: 649 :: 650 :: 651 :: 653 :: 654 :: 655 :: 657 :: 658 :: 660 :: 662 :: 663 :: 664 :: 665 :: 666 :: 667 :: 668 :: 669 :: []) (by decide +kernel) (by decide +kernel)) w h).1
set_option maxRecDepth 100000 in
theorem tbI_14 : ∀ w ∈ TB_14, w ∈ lw_tbl := fun w h => ((goodIn_r (big := lw_tbl) TB_14 (670 :: 671 :: 672 :: 674 :: 675 :: 676 :: 677 :: 678 :: 679 :: 680 :: 681 :: 682 :: 683 :: 684 :: 685 :: 686 :: 687 :: 688 :: 690 :: 691 :: 692 :: 693 :: 694 :: 695 :: 696 :: 697 :: 698 :: 699 :: 700 :: 701 :: []) (by decide +kernel) (by decide +kernel)) w h).1
set_option maxRecDepth 100000 in
theorem tbI_15 : ∀ w ∈ TB_15, w ∈ lw_tbl := fun w h => ((goodIn_r (big := lw_tbl) TB_15 (702 :: 703 :: 704 :: 705 :: 706 :: 708 :: 710 :: 720 :: 722 :: 723 :: 732 :: 734 :: 735 :: 738 :: 740 :: 741 :: 742 :: 744 :: 745 :: 754 :: 756 :: 757 :: 758 :: 760 :: 761 :: 762 :: 764 :: 765 :: 766 :: 768 :: []) (by decide +kernel) (by decide +kernel)) w h).1
set_option maxRecDepth 100000 in
theorem tbI_16 : ∀ w ∈ TB_16, w ∈ lw_tbl := fun w h => ((goodIn_r (big := lw_tbl) TB_16 (769 :: 770 :: 772 :: 773 :: 774 :: 776 :: 777 :: 778 :: 780 :: 781 :: 782 :: 784 :: 785 :: 786 :: 788 :: 789 :: 790 :: 791 :: 792 :: 793 :: 794 :: 796 :: 797 :: 798 :: 799 :: 800 :: 801 :: 802 :: 803 :: 804 :: []) (by decide +kernel) (by decide +kernel)) w h).1
set_option maxRecDepth 100000 in
theorem tbI_17 : ∀ w ∈ TB_17, w ∈ lw_tbl := fun w h => ((goodIn_r (big := lw_tbl) TB_17 (805 :: 806 :: 807 :: 808 :: 809 :: 810 :: 811 :: 812 :: 813 :: 814 :: 815 :: 816 :: 817 :: 818 :: 819 :: 820 :: 821 :: 822 :: 823 :: 824 :: 825 :: 826 :: 827 :: 828 :: 829 :: 830 :: 831 :: 832 :: 833 :: 834 :: []) (by decide +kernel) (by decide +kernel)) w h).1
set_option maxRecDepth 100000 in
theorem tbI_18 : ∀ w ∈ TB_18, w ∈ lw_tbl := fun w h => ((goodIn_r (big := lw_tbl) TB_18 (835 :: 836 :: 837 :: 838 :: 839 :: 840 :: 841 :: 842 :: 843 :: 844 :: 846 :: 847 :: 848 :: 849 :: 850 :: 851 :: 852 :: 853 :: 854 :: 855 :: 856 :: 857 :: 858 :: 859 :: 860 :: 861 :: 862 :: 863 :: 864 :: 865 :: []) (by decide +kernel) (by decide +kernel)) w h).1
set_option maxRecDepth 100000 in
theorem tbI_19 : ∀ w ∈ TB_19, w ∈ lw_tbl := fun w h => ((goodIn_r (big := lw_tbl) TB_19 (866 :: 867 :: 868 :: 869 :: 870 :: 871 :: 873 :: 874 :: 875 :: 876 :: 878 :: 879 :: 880 :: 881 :: 883 :: 884 :: 885 :: 887 :: 888 :: 889 :: 891 :: 892 :: 893 :: 894 :: 895 :: 896 :: 897 :: 898 :: 899 :: 901 :: []) (by decide +kernel) (by decide +kernel)) w h).1
set_option maxRecDepth 100000 in
theorem tbI_20 : ∀ w ∈ TB_20, w ∈ lw_tbl := fun w h => ((goodIn_r (big := lw_tbl) TB_20 (902 :: 903 :: 904 :: 905 :: 906 :: 907 :: 909 :: 910 :: 911 :: 912 :: 913 :: 914 :: 915 :: 917 :: 918 :: 919 :: 921 :: 922 :: 923 :: 925 :: 926 :: 927 :: 929 :: 930 :: 931 :: 932 :: 933 :: 934 :: 935 :: 936 :: []) (by decide +kernel) (by decide +kernel)) w h).1
set_option maxRecDepth 100000 in
theorem tbI_21 : ∀ w ∈ TB_21, w ∈ lw_tbl := fun w h => ((goodIn_r (big := lw_tbl) TB_21 (937 :: 938 :: 939 :: 940 :: 941 :: 943 :: 944 :: 945 :: 947 :: 948 :: 949 :: 950 :: 951 :: 952 :: 953 :: 954 :: 955 :: 956 :: 957 :: 958 :: 959 :: 960 :: 961 :: 962 :: 963 :: 964 :: 966 :: 967 :: 968 :: 970 :: []) (by decide +kernel) (by decide +kernel)) w h).1
set_option maxRecDepth 100000 in
theorem tbI_22 : ∀ w ∈ TB_22, w ∈ lw_tbl := fun w h => ((goodIn_r (big := lw_tbl) TB_22 (971 :: 972 :: 973 :: 974 :: 975 :: 976 :: 977 :: 978 :: 979 :: 980 :: 981 :: 983 :: 984 :: 985 :: 986 :: 987 :: 988 :: 990 :: 991 :: 992 :: 993 :: 994 :: 995 :: 996 :: 997 :: 999 :: 1000 :: 1001 :: 1002 :: 1003 :: []) (by decide +kernel) (by decide +kernel)) w h).1
set_option maxRecDepth 100000 in
theorem tbI_23 : ∀ w ∈ TB_23, w ∈ lw_tbl := fun w h => ((goodIn_r (big := lw_tbl) TB_23 (1004 :: 1005 :: 1006 :: 1007 :: 1008 :: 1009 :: 1010 :: 1011 :: 1012 :: 1013 :: 1014 :: 1015 :: 1016 :: 1017 :: 1018 :: 1019 :: 1020 :: 1021 :: 1022 :: 1024 :: 1025 :: 1026 :: 1027 :: 1028 :: 1029 :: 1030 :: 1031 :: 1032 :: 1033 :: 1034 :: []) (by decide +kernel) (by decide +kernel)) w h).1
set_option maxRecDepth 100000 in
theorem tbI_24 : ∀ w ∈ TB_24, w ∈ lw_tbl := fun w h => ((goodIn_r (big := lw_tbl) TB_24 (1035 :: 1036 :: 1037 :: 1038 :: 1039 :: 1040 :: 1041 :: 1042 :: 1043 :: 1044 :: 1045 :: 1046 :: 1047 :: 1048 :: 1049 :: 1050 :: 1051 :: 1052 :: 1053 :: 1054 :: 1055 :: 1056 :: 1057 :: 1058 :: 1059 :: 1060 :: 1061 :: 1062 :: 1063 :: 1064 :: []) (by decide +kernel) (by decide +kernel)) w h).1
set_option maxRecDepth 100000 in
theorem tbI_25 : ∀ w ∈ TB_25, w ∈ lw_tbl := fun w h => ((goodIn_r (big := lw_tbl) TB_25 (1065 :: 1066 :: 1067 :: 1068 :: 1069 :: 1070 :: 1071 :: 1073 :: 1074 :: 1075 :: 1076 :: 1077 :: 1078 :: 1079 :: 1080 :: 1081 :: 1082 :: 1083 :: 1084 :: 1085 :: 1086 :: 1087 :: 1089 :: 1090 :: 1091 :: 1092 :: 1093 :: 1094 :: 1095 :: 1097 :: []) (by decide +kernel) (by decide +kernel)) w h).1
set_option maxRecDepth 100000 in
theorem tbI_26 : ∀ w ∈ TB_26, w ∈ lw_tbl := fun w h => ((goodIn_r (big := lw_tbl) TB_26 (1098 :: 1099 :: 1100 :: 1101 :: 1102 :: 1103 :: 1104 :: 1105 :: 1106 :: 1107 :: 1108 :: 1109 :: 1110 :: 1111 :: 1112 :: 1113 :: 1114 :: 1115 :: 1116 :: 1117 :: 1118 :: 1119 :: 1120 :: 1121 :: 1122 :: 1123 :: 1124 :: 1125 :: 1126 :: 1127 :: []) (by decide +kernel) (by decide +kernel)) w h).1
