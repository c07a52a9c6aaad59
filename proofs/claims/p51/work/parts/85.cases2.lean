-- ===== the law: cases 17 to 25 =====
theorem f333_803 : aF 803 zM333.2.2.2.2.2.2.2 = some (803, (.aload_n 1), 1, 0, 0) := by decide +kernel
theorem f333_804 : aF 804 zM333.2.2.2.2.2.2.2 = some (804, (.aload_n 0), 1, 0, 0) := by decide +kernel
theorem f333_805 : aF 805 zM333.2.2.2.2.2.2.2 = some (805, (.iload_n 3), 1, 0, 0) := by decide +kernel
theorem f333_806 : aF 806 zM333.2.2.2.2.2.2.2 = some (806, (.iconst 1), 1, 0, 0) := by decide +kernel
theorem f333_807 : aF 807 zM333.2.2.2.2.2.2.2 = some (807, .iadd, 1, 0, 0) := by decide +kernel
theorem f333_808 : aF 808 zM333.2.2.2.2.2.2.2 = some (808, .iaload, 1, 0, 0) := by decide +kernel
theorem f333_809 : aF 809 zM333.2.2.2.2.2.2.2 = some (809, (.aload_n 0), 1, 0, 0) := by decide +kernel
theorem f333_810 : aF 810 zM333.2.2.2.2.2.2.2 = some (810, (.iload_n 3), 1, 0, 0) := by decide +kernel
theorem f333_811 : aF 811 zM333.2.2.2.2.2.2.2 = some (811, (.iconst 2), 1, 0, 0) := by decide +kernel
theorem f333_812 : aF 812 zM333.2.2.2.2.2.2.2 = some (812, .iadd, 1, 0, 0) := by decide +kernel
theorem f333_813 : aF 813 zM333.2.2.2.2.2.2.2 = some (813, .iaload, 1, 0, 0) := by decide +kernel
theorem f333_814 : aF 814 zM333.2.2.2.2.2.2.2 = some (814, (.aload_n 0), 1, 0, 0) := by decide +kernel
theorem f333_815 : aF 815 zM333.2.2.2.2.2.2.2 = some (815, (.iload_n 3), 1, 0, 0) := by decide +kernel
theorem f333_816 : aF 816 zM333.2.2.2.2.2.2.2 = some (816, (.iconst 3), 1, 0, 0) := by decide +kernel
theorem f333_817 : aF 817 zM333.2.2.2.2.2.2.2 = some (817, .iadd, 1, 0, 0) := by decide +kernel
theorem f333_818 : aF 818 zM333.2.2.2.2.2.2.2 = some (818, .iaload, 1, 0, 0) := by decide +kernel
theorem f333_819 : aF 819 zM333.2.2.2.2.2.2.2 = some (819, (.aload_n 0), 1, 0, 0) := by decide +kernel
theorem f333_820 : aF 820 zM333.2.2.2.2.2.2.2 = some (820, (.iload_n 3), 1, 0, 0) := by decide +kernel
theorem f333_821 : aF 821 zM333.2.2.2.2.2.2.2 = some (821, (.iconst 4), 1, 0, 0) := by decide +kernel
theorem f333_822 : aF 822 zM333.2.2.2.2.2.2.2 = some (822, .iadd, 1, 0, 0) := by decide +kernel
theorem f333_823 : aF 823 zM333.2.2.2.2.2.2.2 = some (823, .iaload, 1, 0, 0) := by decide +kernel
theorem f333_824 : aF 824 zM333.2.2.2.2.2.2.2 = some (824, (.invokevirtual 86), 3, 161, 0) := by decide +kernel
theorem f333_827 : aF 827 zM333.2.2.2.2.2.2.2 = some (827, .pop, 1, 0, 0) := by decide +kernel
theorem f333_828 : aF 828 zM333.2.2.2.2.2.2.2 = some (828, (.aload_n 2), 1, 0, 0) := by decide +kernel
theorem f333_829 : aF 829 zM333.2.2.2.2.2.2.2 = some (829, (.aload_n 0), 1, 0, 0) := by decide +kernel
theorem f333_830 : aF 830 zM333.2.2.2.2.2.2.2 = some (830, (.iload_n 3), 1, 0, 0) := by decide +kernel
theorem f333_831 : aF 831 zM333.2.2.2.2.2.2.2 = some (831, (.iconst 1), 1, 0, 0) := by decide +kernel
theorem f333_832 : aF 832 zM333.2.2.2.2.2.2.2 = some (832, .iadd, 1, 0, 0) := by decide +kernel
theorem f333_833 : aF 833 zM333.2.2.2.2.2.2.2 = some (833, .iaload, 1, 0, 0) := by decide +kernel
theorem f333_834 : aF 834 zM333.2.2.2.2.2.2.2 = some (834, (.aload_n 0), 1, 0, 0) := by decide +kernel
theorem f333_835 : aF 835 zM333.2.2.2.2.2.2.2 = some (835, (.iload_n 3), 1, 0, 0) := by decide +kernel
theorem f333_836 : aF 836 zM333.2.2.2.2.2.2.2 = some (836, (.iconst 2), 1, 0, 0) := by decide +kernel
theorem f333_837 : aF 837 zM333.2.2.2.2.2.2.2 = some (837, .iadd, 1, 0, 0) := by decide +kernel
theorem f333_838 : aF 838 zM333.2.2.2.2.2.2.2 = some (838, .iaload, 1, 0, 0) := by decide +kernel
theorem f333_839 : aF 839 zM333.2.2.2.2.2.2.2 = some (839, (.aload_n 0), 1, 0, 0) := by decide +kernel
theorem f333_840 : aF 840 zM333.2.2.2.2.2.2.2 = some (840, (.iload_n 3), 1, 0, 0) := by decide +kernel
theorem f333_841 : aF 841 zM333.2.2.2.2.2.2.2 = some (841, (.iconst 3), 1, 0, 0) := by decide +kernel
theorem f333_842 : aF 842 zM333.2.2.2.2.2.2.2 = some (842, .iadd, 1, 0, 0) := by decide +kernel
theorem f333_843 : aF 843 zM333.2.2.2.2.2.2.2 = some (843, .iaload, 1, 0, 0) := by decide +kernel
theorem f333_844 : aF 844 zM333.2.2.2.2.2.2.2 = some (844, (.aload_n 0), 1, 0, 0) := by decide +kernel
theorem f333_845 : aF 845 zM333.2.2.2.2.2.2.2 = some (845, (.iload_n 3), 1, 0, 0) := by decide +kernel
theorem f333_846 : aF 846 zM333.2.2.2.2.2.2.2 = some (846, (.iconst 4), 1, 0, 0) := by decide +kernel
theorem f333_847 : aF 847 zM333.2.2.2.2.2.2.2 = some (847, .iadd, 1, 0, 0) := by decide +kernel
theorem f333_848 : aF 848 zM333.2.2.2.2.2.2.2 = some (848, .iaload, 1, 0, 0) := by decide +kernel
theorem f333_849 : aF 849 zM333.2.2.2.2.2.2.2 = some (849, (.invokevirtual 90), 3, 243, 0) := by decide +kernel
theorem f333_852 : aF 852 zM333.2.2.2.2.2.2.2 = some (852, .pop, 1, 0, 0) := by decide +kernel
theorem f333_853 : aF 853 zM333.2.2.2.2.2.2.2 = some (853, (.goto 1222), 3, 2075, 0) := by decide +kernel
theorem f333_856 : aF 856 zM333.2.2.2.2.2.2.2 = some (856, (.aload_n 1), 1, 0, 0) := by decide +kernel
theorem f333_857 : aF 857 zM333.2.2.2.2.2.2.2 = some (857, (.aload_n 0), 1, 0, 0) := by decide +kernel
theorem f333_858 : aF 858 zM333.2.2.2.2.2.2.2 = some (858, (.iload_n 3), 1, 0, 0) := by decide +kernel
theorem f333_859 : aF 859 zM333.2.2.2.2.2.2.2 = some (859, (.iconst 1), 1, 0, 0) := by decide +kernel
theorem f333_860 : aF 860 zM333.2.2.2.2.2.2.2 = some (860, .iadd, 1, 0, 0) := by decide +kernel
theorem f333_861 : aF 861 zM333.2.2.2.2.2.2.2 = some (861, .iaload, 1, 0, 0) := by decide +kernel
theorem f333_862 : aF 862 zM333.2.2.2.2.2.2.2 = some (862, (.aload_n 0), 1, 0, 0) := by decide +kernel
theorem f333_863 : aF 863 zM333.2.2.2.2.2.2.2 = some (863, (.iload_n 3), 1, 0, 0) := by decide +kernel
theorem f333_864 : aF 864 zM333.2.2.2.2.2.2.2 = some (864, (.iconst 2), 1, 0, 0) := by decide +kernel
theorem f333_865 : aF 865 zM333.2.2.2.2.2.2.2 = some (865, .iadd, 1, 0, 0) := by decide +kernel
theorem f333_866 : aF 866 zM333.2.2.2.2.2.2.2 = some (866, .iaload, 1, 0, 0) := by decide +kernel
theorem f333_867 : aF 867 zM333.2.2.2.2.2.2.2 = some (867, (.invokevirtual 91), 3, 162, 0) := by decide +kernel
theorem f333_870 : aF 870 zM333.2.2.2.2.2.2.2 = some (870, .pop, 1, 0, 0) := by decide +kernel
theorem f333_871 : aF 871 zM333.2.2.2.2.2.2.2 = some (871, (.aload_n 2), 1, 0, 0) := by decide +kernel
theorem f333_872 : aF 872 zM333.2.2.2.2.2.2.2 = some (872, (.aload_n 0), 1, 0, 0) := by decide +kernel
theorem f333_873 : aF 873 zM333.2.2.2.2.2.2.2 = some (873, (.iload_n 3), 1, 0, 0) := by decide +kernel
theorem f333_874 : aF 874 zM333.2.2.2.2.2.2.2 = some (874, (.iconst 1), 1, 0, 0) := by decide +kernel
theorem f333_875 : aF 875 zM333.2.2.2.2.2.2.2 = some (875, .iadd, 1, 0, 0) := by decide +kernel
theorem f333_876 : aF 876 zM333.2.2.2.2.2.2.2 = some (876, .iaload, 1, 0, 0) := by decide +kernel
theorem f333_877 : aF 877 zM333.2.2.2.2.2.2.2 = some (877, (.aload_n 0), 1, 0, 0) := by decide +kernel
theorem f333_878 : aF 878 zM333.2.2.2.2.2.2.2 = some (878, (.iload_n 3), 1, 0, 0) := by decide +kernel
theorem f333_879 : aF 879 zM333.2.2.2.2.2.2.2 = some (879, (.iconst 2), 1, 0, 0) := by decide +kernel
theorem f333_880 : aF 880 zM333.2.2.2.2.2.2.2 = some (880, .iadd, 1, 0, 0) := by decide +kernel
theorem f333_881 : aF 881 zM333.2.2.2.2.2.2.2 = some (881, .iaload, 1, 0, 0) := by decide +kernel
theorem f333_882 : aF 882 zM333.2.2.2.2.2.2.2 = some (882, (.invokevirtual 94), 3, 244, 0) := by decide +kernel
theorem f333_885 : aF 885 zM333.2.2.2.2.2.2.2 = some (885, .pop, 1, 0, 0) := by decide +kernel
theorem f333_886 : aF 886 zM333.2.2.2.2.2.2.2 = some (886, (.goto 1189), 3, 2075, 0) := by decide +kernel
theorem f333_889 : aF 889 zM333.2.2.2.2.2.2.2 = some (889, (.aload_n 1), 1, 0, 0) := by decide +kernel
theorem f333_890 : aF 890 zM333.2.2.2.2.2.2.2 = some (890, (.aload_n 0), 1, 0, 0) := by decide +kernel
theorem f333_891 : aF 891 zM333.2.2.2.2.2.2.2 = some (891, (.iload_n 3), 1, 0, 0) := by decide +kernel
theorem f333_892 : aF 892 zM333.2.2.2.2.2.2.2 = some (892, (.iconst 1), 1, 0, 0) := by decide +kernel
theorem f333_893 : aF 893 zM333.2.2.2.2.2.2.2 = some (893, .iadd, 1, 0, 0) := by decide +kernel
theorem f333_894 : aF 894 zM333.2.2.2.2.2.2.2 = some (894, .iaload, 1, 0, 0) := by decide +kernel
theorem f333_895 : aF 895 zM333.2.2.2.2.2.2.2 = some (895, (.aload_n 0), 1, 0, 0) := by decide +kernel
theorem f333_896 : aF 896 zM333.2.2.2.2.2.2.2 = some (896, (.iload_n 3), 1, 0, 0) := by decide +kernel
theorem f333_897 : aF 897 zM333.2.2.2.2.2.2.2 = some (897, (.iconst 2), 1, 0, 0) := by decide +kernel
theorem f333_898 : aF 898 zM333.2.2.2.2.2.2.2 = some (898, .iadd, 1, 0, 0) := by decide +kernel
theorem f333_899 : aF 899 zM333.2.2.2.2.2.2.2 = some (899, .iaload, 1, 0, 0) := by decide +kernel
theorem f333_900 : aF 900 zM333.2.2.2.2.2.2.2 = some (900, (.aload_n 0), 1, 0, 0) := by decide +kernel
theorem f333_901 : aF 901 zM333.2.2.2.2.2.2.2 = some (901, (.iload_n 3), 1, 0, 0) := by decide +kernel
theorem f333_902 : aF 902 zM333.2.2.2.2.2.2.2 = some (902, (.iconst 3), 1, 0, 0) := by decide +kernel
theorem f333_903 : aF 903 zM333.2.2.2.2.2.2.2 = some (903, .iadd, 1, 0, 0) := by decide +kernel
theorem f333_904 : aF 904 zM333.2.2.2.2.2.2.2 = some (904, .iaload, 1, 0, 0) := by decide +kernel
theorem f333_905 : aF 905 zM333.2.2.2.2.2.2.2 = some (905, (.invokevirtual 95), 3, 163, 0) := by decide +kernel
theorem f333_908 : aF 908 zM333.2.2.2.2.2.2.2 = some (908, .pop, 1, 0, 0) := by decide +kernel
theorem f333_909 : aF 909 zM333.2.2.2.2.2.2.2 = some (909, (.aload_n 2), 1, 0, 0) := by decide +kernel
theorem f333_910 : aF 910 zM333.2.2.2.2.2.2.2 = some (910, (.aload_n 0), 1, 0, 0) := by decide +kernel
theorem f333_911 : aF 911 zM333.2.2.2.2.2.2.2 = some (911, (.iload_n 3), 1, 0, 0) := by decide +kernel
theorem f333_912 : aF 912 zM333.2.2.2.2.2.2.2 = some (912, (.iconst 1), 1, 0, 0) := by decide +kernel
theorem f333_913 : aF 913 zM333.2.2.2.2.2.2.2 = some (913, .iadd, 1, 0, 0) := by decide +kernel
theorem f333_914 : aF 914 zM333.2.2.2.2.2.2.2 = some (914, .iaload, 1, 0, 0) := by decide +kernel
theorem f333_915 : aF 915 zM333.2.2.2.2.2.2.2 = some (915, (.aload_n 0), 1, 0, 0) := by decide +kernel
theorem f333_916 : aF 916 zM333.2.2.2.2.2.2.2 = some (916, (.iload_n 3), 1, 0, 0) := by decide +kernel
theorem f333_917 : aF 917 zM333.2.2.2.2.2.2.2 = some (917, (.iconst 2), 1, 0, 0) := by decide +kernel
theorem f333_918 : aF 918 zM333.2.2.2.2.2.2.2 = some (918, .iadd, 1, 0, 0) := by decide +kernel
theorem f333_919 : aF 919 zM333.2.2.2.2.2.2.2 = some (919, .iaload, 1, 0, 0) := by decide +kernel
theorem f333_920 : aF 920 zM333.2.2.2.2.2.2.2 = some (920, (.aload_n 0), 1, 0, 0) := by decide +kernel
theorem f333_921 : aF 921 zM333.2.2.2.2.2.2.2 = some (921, (.iload_n 3), 1, 0, 0) := by decide +kernel
theorem f333_922 : aF 922 zM333.2.2.2.2.2.2.2 = some (922, (.iconst 3), 1, 0, 0) := by decide +kernel
theorem f333_923 : aF 923 zM333.2.2.2.2.2.2.2 = some (923, .iadd, 1, 0, 0) := by decide +kernel
theorem f333_924 : aF 924 zM333.2.2.2.2.2.2.2 = some (924, .iaload, 1, 0, 0) := by decide +kernel
theorem f333_925 : aF 925 zM333.2.2.2.2.2.2.2 = some (925, (.invokevirtual 98), 3, 245, 0) := by decide +kernel
theorem f333_928 : aF 928 zM333.2.2.2.2.2.2.2 = some (928, .pop, 1, 0, 0) := by decide +kernel
theorem f333_929 : aF 929 zM333.2.2.2.2.2.2.2 = some (929, (.goto 1146), 3, 2075, 0) := by decide +kernel
theorem f333_932 : aF 932 zM333.2.2.2.2.2.2.2 = some (932, (.aload_n 1), 1, 0, 0) := by decide +kernel
theorem f333_933 : aF 933 zM333.2.2.2.2.2.2.2 = some (933, (.aload_n 0), 1, 0, 0) := by decide +kernel
theorem f333_934 : aF 934 zM333.2.2.2.2.2.2.2 = some (934, (.iload_n 3), 1, 0, 0) := by decide +kernel
theorem f333_935 : aF 935 zM333.2.2.2.2.2.2.2 = some (935, (.iconst 1), 1, 0, 0) := by decide +kernel
theorem f333_936 : aF 936 zM333.2.2.2.2.2.2.2 = some (936, .iadd, 1, 0, 0) := by decide +kernel
theorem f333_937 : aF 937 zM333.2.2.2.2.2.2.2 = some (937, .iaload, 1, 0, 0) := by decide +kernel
theorem f333_938 : aF 938 zM333.2.2.2.2.2.2.2 = some (938, (.aload_n 0), 1, 0, 0) := by decide +kernel
theorem f333_939 : aF 939 zM333.2.2.2.2.2.2.2 = some (939, (.iload_n 3), 1, 0, 0) := by decide +kernel
theorem f333_940 : aF 940 zM333.2.2.2.2.2.2.2 = some (940, (.iconst 2), 1, 0, 0) := by decide +kernel
theorem f333_941 : aF 941 zM333.2.2.2.2.2.2.2 = some (941, .iadd, 1, 0, 0) := by decide +kernel
theorem f333_942 : aF 942 zM333.2.2.2.2.2.2.2 = some (942, .iaload, 1, 0, 0) := by decide +kernel
theorem f333_943 : aF 943 zM333.2.2.2.2.2.2.2 = some (943, (.aload_n 0), 1, 0, 0) := by decide +kernel
theorem f333_944 : aF 944 zM333.2.2.2.2.2.2.2 = some (944, (.iload_n 3), 1, 0, 0) := by decide +kernel
theorem f333_945 : aF 945 zM333.2.2.2.2.2.2.2 = some (945, (.iconst 3), 1, 0, 0) := by decide +kernel
theorem f333_946 : aF 946 zM333.2.2.2.2.2.2.2 = some (946, .iadd, 1, 0, 0) := by decide +kernel
theorem f333_947 : aF 947 zM333.2.2.2.2.2.2.2 = some (947, .iaload, 1, 0, 0) := by decide +kernel
theorem f333_948 : aF 948 zM333.2.2.2.2.2.2.2 = some (948, (.aload_n 0), 1, 0, 0) := by decide +kernel
theorem f333_949 : aF 949 zM333.2.2.2.2.2.2.2 = some (949, (.iload_n 3), 1, 0, 0) := by decide +kernel
theorem f333_950 : aF 950 zM333.2.2.2.2.2.2.2 = some (950, (.iconst 4), 1, 0, 0) := by decide +kernel
theorem f333_951 : aF 951 zM333.2.2.2.2.2.2.2 = some (951, .iadd, 1, 0, 0) := by decide +kernel
theorem f333_952 : aF 952 zM333.2.2.2.2.2.2.2 = some (952, .iaload, 1, 0, 0) := by decide +kernel
theorem f333_953 : aF 953 zM333.2.2.2.2.2.2.2 = some (953, (.invokevirtual 99), 3, 164, 0) := by decide +kernel
theorem f333_956 : aF 956 zM333.2.2.2.2.2.2.2 = some (956, .pop, 1, 0, 0) := by decide +kernel
theorem f333_957 : aF 957 zM333.2.2.2.2.2.2.2 = some (957, (.aload_n 2), 1, 0, 0) := by decide +kernel
theorem f333_958 : aF 958 zM333.2.2.2.2.2.2.2 = some (958, (.aload_n 0), 1, 0, 0) := by decide +kernel
theorem f333_959 : aF 959 zM333.2.2.2.2.2.2.2 = some (959, (.iload_n 3), 1, 0, 0) := by decide +kernel
theorem f333_960 : aF 960 zM333.2.2.2.2.2.2.2 = some (960, (.iconst 1), 1, 0, 0) := by decide +kernel
theorem f333_961 : aF 961 zM333.2.2.2.2.2.2.2 = some (961, .iadd, 1, 0, 0) := by decide +kernel
theorem f333_962 : aF 962 zM333.2.2.2.2.2.2.2 = some (962, .iaload, 1, 0, 0) := by decide +kernel
theorem f333_963 : aF 963 zM333.2.2.2.2.2.2.2 = some (963, (.aload_n 0), 1, 0, 0) := by decide +kernel
theorem f333_964 : aF 964 zM333.2.2.2.2.2.2.2 = some (964, (.iload_n 3), 1, 0, 0) := by decide +kernel
theorem f333_965 : aF 965 zM333.2.2.2.2.2.2.2 = some (965, (.iconst 2), 1, 0, 0) := by decide +kernel
theorem f333_966 : aF 966 zM333.2.2.2.2.2.2.2 = some (966, .iadd, 1, 0, 0) := by decide +kernel
theorem f333_967 : aF 967 zM333.2.2.2.2.2.2.2 = some (967, .iaload, 1, 0, 0) := by decide +kernel
theorem f333_968 : aF 968 zM333.2.2.2.2.2.2.2 = some (968, (.aload_n 0), 1, 0, 0) := by decide +kernel
theorem f333_969 : aF 969 zM333.2.2.2.2.2.2.2 = some (969, (.iload_n 3), 1, 0, 0) := by decide +kernel
theorem f333_970 : aF 970 zM333.2.2.2.2.2.2.2 = some (970, (.iconst 3), 1, 0, 0) := by decide +kernel
theorem f333_971 : aF 971 zM333.2.2.2.2.2.2.2 = some (971, .iadd, 1, 0, 0) := by decide +kernel
theorem f333_972 : aF 972 zM333.2.2.2.2.2.2.2 = some (972, .iaload, 1, 0, 0) := by decide +kernel
theorem f333_973 : aF 973 zM333.2.2.2.2.2.2.2 = some (973, (.aload_n 0), 1, 0, 0) := by decide +kernel
theorem f333_974 : aF 974 zM333.2.2.2.2.2.2.2 = some (974, (.iload_n 3), 1, 0, 0) := by decide +kernel
theorem f333_975 : aF 975 zM333.2.2.2.2.2.2.2 = some (975, (.iconst 4), 1, 0, 0) := by decide +kernel
theorem f333_976 : aF 976 zM333.2.2.2.2.2.2.2 = some (976, .iadd, 1, 0, 0) := by decide +kernel
theorem f333_977 : aF 977 zM333.2.2.2.2.2.2.2 = some (977, .iaload, 1, 0, 0) := by decide +kernel
theorem f333_978 : aF 978 zM333.2.2.2.2.2.2.2 = some (978, (.invokevirtual 102), 3, 247, 0) := by decide +kernel
theorem f333_981 : aF 981 zM333.2.2.2.2.2.2.2 = some (981, .pop, 1, 0, 0) := by decide +kernel
theorem f333_982 : aF 982 zM333.2.2.2.2.2.2.2 = some (982, (.goto 1093), 3, 2075, 0) := by decide +kernel
theorem f333_985 : aF 985 zM333.2.2.2.2.2.2.2 = some (985, (.aload_n 1), 1, 0, 0) := by decide +kernel
theorem f333_986 : aF 986 zM333.2.2.2.2.2.2.2 = some (986, (.aload_n 0), 1, 0, 0) := by decide +kernel
theorem f333_987 : aF 987 zM333.2.2.2.2.2.2.2 = some (987, (.iload_n 3), 1, 0, 0) := by decide +kernel
theorem f333_988 : aF 988 zM333.2.2.2.2.2.2.2 = some (988, (.iconst 1), 1, 0, 0) := by decide +kernel
theorem f333_989 : aF 989 zM333.2.2.2.2.2.2.2 = some (989, .iadd, 1, 0, 0) := by decide +kernel
theorem f333_990 : aF 990 zM333.2.2.2.2.2.2.2 = some (990, .iaload, 1, 0, 0) := by decide +kernel
theorem f333_991 : aF 991 zM333.2.2.2.2.2.2.2 = some (991, (.invokevirtual 103), 3, 165, 0) := by decide +kernel
theorem f333_994 : aF 994 zM333.2.2.2.2.2.2.2 = some (994, .pop, 1, 0, 0) := by decide +kernel
theorem f333_995 : aF 995 zM333.2.2.2.2.2.2.2 = some (995, (.aload_n 2), 1, 0, 0) := by decide +kernel
theorem f333_996 : aF 996 zM333.2.2.2.2.2.2.2 = some (996, (.aload_n 0), 1, 0, 0) := by decide +kernel
theorem f333_997 : aF 997 zM333.2.2.2.2.2.2.2 = some (997, (.iload_n 3), 1, 0, 0) := by decide +kernel
theorem f333_998 : aF 998 zM333.2.2.2.2.2.2.2 = some (998, (.iconst 1), 1, 0, 0) := by decide +kernel
theorem f333_999 : aF 999 zM333.2.2.2.2.2.2.2 = some (999, .iadd, 1, 0, 0) := by decide +kernel
theorem f333_1000 : aF 1000 zM333.2.2.2.2.2.2.2 = some (1000, .iaload, 1, 0, 0) := by decide +kernel
theorem f333_1001 : aF 1001 zM333.2.2.2.2.2.2.2 = some (1001, (.invokevirtual 106), 3, 246, 0) := by decide +kernel
theorem f333_1004 : aF 1004 zM333.2.2.2.2.2.2.2 = some (1004, .pop, 1, 0, 0) := by decide +kernel
theorem f333_1005 : aF 1005 zM333.2.2.2.2.2.2.2 = some (1005, (.goto 1070), 3, 2075, 0) := by decide +kernel
theorem f333_1008 : aF 1008 zM333.2.2.2.2.2.2.2 = some (1008, (.aload_n 1), 1, 0, 0) := by decide +kernel
theorem f333_1009 : aF 1009 zM333.2.2.2.2.2.2.2 = some (1009, (.aload_n 0), 1, 0, 0) := by decide +kernel
theorem f333_1010 : aF 1010 zM333.2.2.2.2.2.2.2 = some (1010, (.iload_n 3), 1, 0, 0) := by decide +kernel
theorem f333_1011 : aF 1011 zM333.2.2.2.2.2.2.2 = some (1011, (.iconst 1), 1, 0, 0) := by decide +kernel
theorem f333_1012 : aF 1012 zM333.2.2.2.2.2.2.2 = some (1012, .iadd, 1, 0, 0) := by decide +kernel
theorem f333_1013 : aF 1013 zM333.2.2.2.2.2.2.2 = some (1013, .iaload, 1, 0, 0) := by decide +kernel
theorem f333_1014 : aF 1014 zM333.2.2.2.2.2.2.2 = some (1014, (.aload_n 0), 1, 0, 0) := by decide +kernel
theorem f333_1015 : aF 1015 zM333.2.2.2.2.2.2.2 = some (1015, (.iload_n 3), 1, 0, 0) := by decide +kernel
theorem f333_1016 : aF 1016 zM333.2.2.2.2.2.2.2 = some (1016, (.iconst 2), 1, 0, 0) := by decide +kernel
theorem f333_1017 : aF 1017 zM333.2.2.2.2.2.2.2 = some (1017, .iadd, 1, 0, 0) := by decide +kernel
theorem f333_1018 : aF 1018 zM333.2.2.2.2.2.2.2 = some (1018, .iaload, 1, 0, 0) := by decide +kernel
theorem f333_1019 : aF 1019 zM333.2.2.2.2.2.2.2 = some (1019, (.aload_n 0), 1, 0, 0) := by decide +kernel
theorem f333_1020 : aF 1020 zM333.2.2.2.2.2.2.2 = some (1020, (.iload_n 3), 1, 0, 0) := by decide +kernel
theorem f333_1021 : aF 1021 zM333.2.2.2.2.2.2.2 = some (1021, (.iconst 3), 1, 0, 0) := by decide +kernel
theorem f333_1022 : aF 1022 zM333.2.2.2.2.2.2.2 = some (1022, .iadd, 1, 0, 0) := by decide +kernel
theorem f333_1023 : aF 1023 zM333.2.2.2.2.2.2.2 = some (1023, .iaload, 1, 0, 0) := by decide +kernel
theorem f333_1024 : aF 1024 zM333.2.2.2.2.2.2.2 = some (1024, (.invokevirtual 107), 3, 166, 0) := by decide +kernel
theorem f333_1027 : aF 1027 zM333.2.2.2.2.2.2.2 = some (1027, .pop, 1, 0, 0) := by decide +kernel
theorem f333_1028 : aF 1028 zM333.2.2.2.2.2.2.2 = some (1028, (.aload_n 2), 1, 0, 0) := by decide +kernel
theorem f333_1029 : aF 1029 zM333.2.2.2.2.2.2.2 = some (1029, (.aload_n 0), 1, 0, 0) := by decide +kernel
theorem f333_1030 : aF 1030 zM333.2.2.2.2.2.2.2 = some (1030, (.iload_n 3), 1, 0, 0) := by decide +kernel
theorem f333_1031 : aF 1031 zM333.2.2.2.2.2.2.2 = some (1031, (.iconst 1), 1, 0, 0) := by decide +kernel
theorem f333_1032 : aF 1032 zM333.2.2.2.2.2.2.2 = some (1032, .iadd, 1, 0, 0) := by decide +kernel
theorem f333_1033 : aF 1033 zM333.2.2.2.2.2.2.2 = some (1033, .iaload, 1, 0, 0) := by decide +kernel
theorem f333_1034 : aF 1034 zM333.2.2.2.2.2.2.2 = some (1034, (.aload_n 0), 1, 0, 0) := by decide +kernel
theorem f333_1035 : aF 1035 zM333.2.2.2.2.2.2.2 = some (1035, (.iload_n 3), 1, 0, 0) := by decide +kernel
theorem f333_1036 : aF 1036 zM333.2.2.2.2.2.2.2 = some (1036, (.iconst 2), 1, 0, 0) := by decide +kernel
theorem f333_1037 : aF 1037 zM333.2.2.2.2.2.2.2 = some (1037, .iadd, 1, 0, 0) := by decide +kernel
theorem f333_1038 : aF 1038 zM333.2.2.2.2.2.2.2 = some (1038, .iaload, 1, 0, 0) := by decide +kernel
theorem f333_1039 : aF 1039 zM333.2.2.2.2.2.2.2 = some (1039, (.aload_n 0), 1, 0, 0) := by decide +kernel
theorem f333_1040 : aF 1040 zM333.2.2.2.2.2.2.2 = some (1040, (.iload_n 3), 1, 0, 0) := by decide +kernel
theorem f333_1041 : aF 1041 zM333.2.2.2.2.2.2.2 = some (1041, (.iconst 3), 1, 0, 0) := by decide +kernel
theorem f333_1042 : aF 1042 zM333.2.2.2.2.2.2.2 = some (1042, .iadd, 1, 0, 0) := by decide +kernel
theorem f333_1043 : aF 1043 zM333.2.2.2.2.2.2.2 = some (1043, .iaload, 1, 0, 0) := by decide +kernel
theorem f333_1044 : aF 1044 zM333.2.2.2.2.2.2.2 = some (1044, (.invokevirtual 110), 3, 249, 0) := by decide +kernel
theorem f333_1047 : aF 1047 zM333.2.2.2.2.2.2.2 = some (1047, .pop, 1, 0, 0) := by decide +kernel
theorem f333_1048 : aF 1048 zM333.2.2.2.2.2.2.2 = some (1048, (.goto 1027), 3, 2075, 0) := by decide +kernel
theorem f333_1051 : aF 1051 zM333.2.2.2.2.2.2.2 = some (1051, (.aload_n 1), 1, 0, 0) := by decide +kernel
theorem f333_1052 : aF 1052 zM333.2.2.2.2.2.2.2 = some (1052, (.aload_n 0), 1, 0, 0) := by decide +kernel
theorem f333_1053 : aF 1053 zM333.2.2.2.2.2.2.2 = some (1053, (.iload_n 3), 1, 0, 0) := by decide +kernel
theorem f333_1054 : aF 1054 zM333.2.2.2.2.2.2.2 = some (1054, (.iconst 1), 1, 0, 0) := by decide +kernel
theorem f333_1055 : aF 1055 zM333.2.2.2.2.2.2.2 = some (1055, .iadd, 1, 0, 0) := by decide +kernel
theorem f333_1056 : aF 1056 zM333.2.2.2.2.2.2.2 = some (1056, .iaload, 1, 0, 0) := by decide +kernel
theorem f333_1057 : aF 1057 zM333.2.2.2.2.2.2.2 = some (1057, (.aload_n 0), 1, 0, 0) := by decide +kernel
theorem f333_1058 : aF 1058 zM333.2.2.2.2.2.2.2 = some (1058, (.iload_n 3), 1, 0, 0) := by decide +kernel
theorem f333_1059 : aF 1059 zM333.2.2.2.2.2.2.2 = some (1059, (.iconst 2), 1, 0, 0) := by decide +kernel
theorem f333_1060 : aF 1060 zM333.2.2.2.2.2.2.2 = some (1060, .iadd, 1, 0, 0) := by decide +kernel
theorem f333_1061 : aF 1061 zM333.2.2.2.2.2.2.2 = some (1061, .iaload, 1, 0, 0) := by decide +kernel
theorem f333_1062 : aF 1062 zM333.2.2.2.2.2.2.2 = some (1062, (.invokevirtual 111), 3, 167, 0) := by decide +kernel
theorem f333_1065 : aF 1065 zM333.2.2.2.2.2.2.2 = some (1065, .pop, 1, 0, 0) := by decide +kernel
theorem f333_1066 : aF 1066 zM333.2.2.2.2.2.2.2 = some (1066, (.aload_n 2), 1, 0, 0) := by decide +kernel
theorem f333_1067 : aF 1067 zM333.2.2.2.2.2.2.2 = some (1067, (.aload_n 0), 1, 0, 0) := by decide +kernel
theorem f333_1068 : aF 1068 zM333.2.2.2.2.2.2.2 = some (1068, (.iload_n 3), 1, 0, 0) := by decide +kernel
theorem f333_1069 : aF 1069 zM333.2.2.2.2.2.2.2 = some (1069, (.iconst 1), 1, 0, 0) := by decide +kernel
theorem f333_1070 : aF 1070 zM333.2.2.2.2.2.2.2 = some (1070, .iadd, 1, 0, 0) := by decide +kernel
theorem f333_1071 : aF 1071 zM333.2.2.2.2.2.2.2 = some (1071, .iaload, 1, 0, 0) := by decide +kernel
theorem f333_1072 : aF 1072 zM333.2.2.2.2.2.2.2 = some (1072, (.aload_n 0), 1, 0, 0) := by decide +kernel
theorem f333_1073 : aF 1073 zM333.2.2.2.2.2.2.2 = some (1073, (.iload_n 3), 1, 0, 0) := by decide +kernel
theorem f333_1074 : aF 1074 zM333.2.2.2.2.2.2.2 = some (1074, (.iconst 2), 1, 0, 0) := by decide +kernel
theorem f333_1075 : aF 1075 zM333.2.2.2.2.2.2.2 = some (1075, .iadd, 1, 0, 0) := by decide +kernel
theorem f333_1076 : aF 1076 zM333.2.2.2.2.2.2.2 = some (1076, .iaload, 1, 0, 0) := by decide +kernel
theorem f333_1077 : aF 1077 zM333.2.2.2.2.2.2.2 = some (1077, (.invokevirtual 114), 3, 250, 0) := by decide +kernel
theorem f333_1080 : aF 1080 zM333.2.2.2.2.2.2.2 = some (1080, .pop, 1, 0, 0) := by decide +kernel
theorem f333_1081 : aF 1081 zM333.2.2.2.2.2.2.2 = some (1081, (.goto 994), 3, 2075, 0) := by decide +kernel
theorem f333_1084 : aF 1084 zM333.2.2.2.2.2.2.2 = some (1084, (.aload_n 1), 1, 0, 0) := by decide +kernel
theorem f333_1085 : aF 1085 zM333.2.2.2.2.2.2.2 = some (1085, (.aload_n 0), 1, 0, 0) := by decide +kernel
theorem f333_1086 : aF 1086 zM333.2.2.2.2.2.2.2 = some (1086, (.iload_n 3), 1, 0, 0) := by decide +kernel
theorem f333_1087 : aF 1087 zM333.2.2.2.2.2.2.2 = some (1087, (.iconst 1), 1, 0, 0) := by decide +kernel
theorem f333_1088 : aF 1088 zM333.2.2.2.2.2.2.2 = some (1088, .iadd, 1, 0, 0) := by decide +kernel
theorem f333_1089 : aF 1089 zM333.2.2.2.2.2.2.2 = some (1089, .iaload, 1, 0, 0) := by decide +kernel
theorem f333_1090 : aF 1090 zM333.2.2.2.2.2.2.2 = some (1090, (.aload_n 0), 1, 0, 0) := by decide +kernel
theorem f333_1091 : aF 1091 zM333.2.2.2.2.2.2.2 = some (1091, (.iload_n 3), 1, 0, 0) := by decide +kernel
theorem f333_1092 : aF 1092 zM333.2.2.2.2.2.2.2 = some (1092, (.iconst 2), 1, 0, 0) := by decide +kernel
theorem f333_1093 : aF 1093 zM333.2.2.2.2.2.2.2 = some (1093, .iadd, 1, 0, 0) := by decide +kernel
theorem f333_1094 : aF 1094 zM333.2.2.2.2.2.2.2 = some (1094, .iaload, 1, 0, 0) := by decide +kernel
theorem f333_1095 : aF 1095 zM333.2.2.2.2.2.2.2 = some (1095, (.invokevirtual 115), 3, 168, 0) := by decide +kernel
theorem f333_1098 : aF 1098 zM333.2.2.2.2.2.2.2 = some (1098, .pop, 1, 0, 0) := by decide +kernel
theorem f333_1099 : aF 1099 zM333.2.2.2.2.2.2.2 = some (1099, (.aload_n 2), 1, 0, 0) := by decide +kernel
theorem f333_1100 : aF 1100 zM333.2.2.2.2.2.2.2 = some (1100, (.aload_n 0), 1, 0, 0) := by decide +kernel
theorem f333_1101 : aF 1101 zM333.2.2.2.2.2.2.2 = some (1101, (.iload_n 3), 1, 0, 0) := by decide +kernel
theorem f333_1102 : aF 1102 zM333.2.2.2.2.2.2.2 = some (1102, (.iconst 1), 1, 0, 0) := by decide +kernel
theorem f333_1103 : aF 1103 zM333.2.2.2.2.2.2.2 = some (1103, .iadd, 1, 0, 0) := by decide +kernel
theorem f333_1104 : aF 1104 zM333.2.2.2.2.2.2.2 = some (1104, .iaload, 1, 0, 0) := by decide +kernel
theorem f333_1105 : aF 1105 zM333.2.2.2.2.2.2.2 = some (1105, (.aload_n 0), 1, 0, 0) := by decide +kernel
theorem f333_1106 : aF 1106 zM333.2.2.2.2.2.2.2 = some (1106, (.iload_n 3), 1, 0, 0) := by decide +kernel
theorem f333_1107 : aF 1107 zM333.2.2.2.2.2.2.2 = some (1107, (.iconst 2), 1, 0, 0) := by decide +kernel
theorem f333_1108 : aF 1108 zM333.2.2.2.2.2.2.2 = some (1108, .iadd, 1, 0, 0) := by decide +kernel
theorem f333_1109 : aF 1109 zM333.2.2.2.2.2.2.2 = some (1109, .iaload, 1, 0, 0) := by decide +kernel
theorem f333_1110 : aF 1110 zM333.2.2.2.2.2.2.2 = some (1110, (.invokevirtual 118), 3, 264, 0) := by decide +kernel
theorem f333_1113 : aF 1113 zM333.2.2.2.2.2.2.2 = some (1113, .pop, 1, 0, 0) := by decide +kernel
theorem f333_1114 : aF 1114 zM333.2.2.2.2.2.2.2 = some (1114, (.goto 961), 3, 2075, 0) := by decide +kernel
theorem f333_1117 : aF 1117 zM333.2.2.2.2.2.2.2 = some (1117, (.aload_n 1), 1, 0, 0) := by decide +kernel
theorem f333_1118 : aF 1118 zM333.2.2.2.2.2.2.2 = some (1118, (.aload_n 0), 1, 0, 0) := by decide +kernel
theorem f333_1119 : aF 1119 zM333.2.2.2.2.2.2.2 = some (1119, (.iload_n 3), 1, 0, 0) := by decide +kernel
theorem f333_1120 : aF 1120 zM333.2.2.2.2.2.2.2 = some (1120, (.iconst 1), 1, 0, 0) := by decide +kernel
theorem f333_1121 : aF 1121 zM333.2.2.2.2.2.2.2 = some (1121, .iadd, 1, 0, 0) := by decide +kernel
theorem f333_1122 : aF 1122 zM333.2.2.2.2.2.2.2 = some (1122, .iaload, 1, 0, 0) := by decide +kernel
theorem f333_1123 : aF 1123 zM333.2.2.2.2.2.2.2 = some (1123, (.aload_n 0), 1, 0, 0) := by decide +kernel
theorem f333_1124 : aF 1124 zM333.2.2.2.2.2.2.2 = some (1124, (.iload_n 3), 1, 0, 0) := by decide +kernel
theorem f333_1125 : aF 1125 zM333.2.2.2.2.2.2.2 = some (1125, (.iconst 2), 1, 0, 0) := by decide +kernel
theorem f333_1126 : aF 1126 zM333.2.2.2.2.2.2.2 = some (1126, .iadd, 1, 0, 0) := by decide +kernel
theorem f333_1127 : aF 1127 zM333.2.2.2.2.2.2.2 = some (1127, .iaload, 1, 0, 0) := by decide +kernel
theorem f333_1128 : aF 1128 zM333.2.2.2.2.2.2.2 = some (1128, (.aload_n 0), 1, 0, 0) := by decide +kernel
theorem f333_1129 : aF 1129 zM333.2.2.2.2.2.2.2 = some (1129, (.iload_n 3), 1, 0, 0) := by decide +kernel
theorem f333_1130 : aF 1130 zM333.2.2.2.2.2.2.2 = some (1130, (.iconst 3), 1, 0, 0) := by decide +kernel
theorem f333_1131 : aF 1131 zM333.2.2.2.2.2.2.2 = some (1131, .iadd, 1, 0, 0) := by decide +kernel
theorem f333_1132 : aF 1132 zM333.2.2.2.2.2.2.2 = some (1132, .iaload, 1, 0, 0) := by decide +kernel
theorem f333_1133 : aF 1133 zM333.2.2.2.2.2.2.2 = some (1133, (.invokevirtual 119), 3, 169, 0) := by decide +kernel
theorem f333_1136 : aF 1136 zM333.2.2.2.2.2.2.2 = some (1136, .pop, 1, 0, 0) := by decide +kernel
theorem f333_1137 : aF 1137 zM333.2.2.2.2.2.2.2 = some (1137, (.aload_n 2), 1, 0, 0) := by decide +kernel
theorem f333_1138 : aF 1138 zM333.2.2.2.2.2.2.2 = some (1138, (.aload_n 0), 1, 0, 0) := by decide +kernel
theorem f333_1139 : aF 1139 zM333.2.2.2.2.2.2.2 = some (1139, (.iload_n 3), 1, 0, 0) := by decide +kernel
theorem f333_1140 : aF 1140 zM333.2.2.2.2.2.2.2 = some (1140, (.iconst 1), 1, 0, 0) := by decide +kernel
theorem f333_1141 : aF 1141 zM333.2.2.2.2.2.2.2 = some (1141, .iadd, 1, 0, 0) := by decide +kernel
theorem f333_1142 : aF 1142 zM333.2.2.2.2.2.2.2 = some (1142, .iaload, 1, 0, 0) := by decide +kernel
theorem f333_1143 : aF 1143 zM333.2.2.2.2.2.2.2 = some (1143, (.aload_n 0), 1, 0, 0) := by decide +kernel
theorem f333_1144 : aF 1144 zM333.2.2.2.2.2.2.2 = some (1144, (.iload_n 3), 1, 0, 0) := by decide +kernel
theorem f333_1145 : aF 1145 zM333.2.2.2.2.2.2.2 = some (1145, (.iconst 2), 1, 0, 0) := by decide +kernel
theorem f333_1146 : aF 1146 zM333.2.2.2.2.2.2.2 = some (1146, .iadd, 1, 0, 0) := by decide +kernel
theorem f333_1147 : aF 1147 zM333.2.2.2.2.2.2.2 = some (1147, .iaload, 1, 0, 0) := by decide +kernel
theorem f333_1148 : aF 1148 zM333.2.2.2.2.2.2.2 = some (1148, (.aload_n 0), 1, 0, 0) := by decide +kernel
theorem f333_1149 : aF 1149 zM333.2.2.2.2.2.2.2 = some (1149, (.iload_n 3), 1, 0, 0) := by decide +kernel
theorem f333_1150 : aF 1150 zM333.2.2.2.2.2.2.2 = some (1150, (.iconst 3), 1, 0, 0) := by decide +kernel
theorem f333_1151 : aF 1151 zM333.2.2.2.2.2.2.2 = some (1151, .iadd, 1, 0, 0) := by decide +kernel
theorem f333_1152 : aF 1152 zM333.2.2.2.2.2.2.2 = some (1152, .iaload, 1, 0, 0) := by decide +kernel
theorem f333_1153 : aF 1153 zM333.2.2.2.2.2.2.2 = some (1153, (.invokevirtual 122), 3, 266, 0) := by decide +kernel
theorem f333_1156 : aF 1156 zM333.2.2.2.2.2.2.2 = some (1156, .pop, 1, 0, 0) := by decide +kernel
theorem f333_1157 : aF 1157 zM333.2.2.2.2.2.2.2 = some (1157, (.goto 918), 3, 2075, 0) := by decide +kernel
theorem lc_17 {X : aX} (G : hG X 302) (hX : X 0 = some (8, zab)) {L : Nat} {xs : Nat → Int32} (hX1 : X 1 = some (L, xs)) (hL : L ≤ 3072) {i : Int32} (i0 : 0 ≤ i.toInt) (i1 : i.toInt + 6 ≤ L) {Q : Option Value → aH → Prop} {σ : List Nat} {h : aH} (I : dI σ h) (J : JX h) (kq : ∀ (σ' : List Nat) (h' : aH), dI σ' h' → JX h' → dPh h' ≤ dPh h → Wp X 64 zM333 Q 2075 [some (.retAddr 1), some (.ref 0), some (.ref 72), some (.int i)] [] h') : Wp X 64 zM333 Q 803 [some (.retAddr 1), some (.ref 0), some (.ref 72), some (.int i)] [] h := by
  obtain ⟨J, K⟩ := J
  refine wp1 (fun n d => r_aloadn f333_803 rfl) ?_
  refine wp1 (fun n d => r_aloadnX f333_804 rfl) ?_
  refine wp1 (fun n d => r_iloadn f333_805 rfl) ?_
  refine w_iconst f333_806 (fun v806 hv806 => ?_)
  refine w_iadd f333_807 (by omega) (by omega) (fun v807 hv807 => ?_)
  refine w_xld f333_808 hX1 (by omega) (by omega) (fun v808 hv808 => ?_)
  refine wp1 (fun n d => r_aloadnX f333_809 rfl) ?_
  refine wp1 (fun n d => r_iloadn f333_810 rfl) ?_
  refine w_iconst f333_811 (fun v811 hv811 => ?_)
  refine w_iadd f333_812 (by omega) (by omega) (fun v812 hv812 => ?_)
  refine w_xld f333_813 hX1 (by omega) (by omega) (fun v813 hv813 => ?_)
  refine wp1 (fun n d => r_aloadnX f333_814 rfl) ?_
  refine wp1 (fun n d => r_iloadn f333_815 rfl) ?_
  refine w_iconst f333_816 (fun v816 hv816 => ?_)
  refine w_iadd f333_817 (by omega) (by omega) (fun v817 hv817 => ?_)
  refine w_xld f333_818 hX1 (by omega) (by omega) (fun v818 hv818 => ?_)
  refine wp1 (fun n d => r_aloadnX f333_819 rfl) ?_
  refine wp1 (fun n d => r_iloadn f333_820 rfl) ?_
  refine w_iconst f333_821 (fun v821 hv821 => ?_)
  refine w_iadd f333_822 (by omega) (by omega) (fun v822 hv822 => ?_)
  refine w_xld f333_823 hX1 (by omega) (by omega) (fun v823 hv823 => ?_)
  obtain ⟨fs1002, c1002⟩ := hI_o I (r := 0) (ci := 11) (by decide +kernel)
  refine wp_good (G 74 (by decide) cC74 rfl) (Y := zM161) (show zmt[161]? = some zM161 from rfl) I (ρ := [0, v808.toInt, v813.toInt, v818.toInt, v823.toInt]) (dK_v (kV_of rfl ⟨⟨by decide, by decide⟩, iR v808, iR v813, iR v818, iR v823, trivial⟩)) (dL_of (l := [some (.ref 0), some (.int v808), some (.int v813), some (.int v818), some (.int v823)]) ⟨lw_r (by decide), lw_i rfl, lw_i rfl, lw_i rfl, lw_i rfl, trivial⟩) (fun n d v h' e => r_virt (as := [.int v808, .int v813, .int v818, .int v823]) (r := []) f333_824 c1002 (show zmt[161]? = some zM161 from rfl) rfl rfl rfl rfl rfl rfl e) (by first | decide | (show 9 + 1 ≤ _; omega)) (fun v h1001 σ1001 I1001 G1001 P1001 => ?_)
  obtain ⟨v824, vq824⟩ : ∃ y : Int32, v = some (.int y) := by
    obtain ⟨P, hm, ρ', rh', kP, sP⟩ := P1001
    cases List.mem_singleton.mp hm
    cases v with
    | none => exact sP.elim
    | some v =>
      obtain ⟨⟨x, y, rfl, -, -⟩, -⟩ := sP
      exact ⟨x, rfl⟩
  subst vq824
  show Wp _ _ _ _ 827 [some (.retAddr 1), some (.ref 0), some (.ref 72), some (.int i)] [.int v824] _
  obtain ⟨fs1003, c1003, df1003⟩ := dG_o I.1 G1001 c1002 (by decide)
  refine wp1 (fun nn dd => r_pop f333_827 rfl) ?_
  refine wp1 (fun n d => r_aloadn f333_828 rfl) ?_
  refine wp1 (fun n d => r_aloadnX f333_829 rfl) ?_
  refine wp1 (fun n d => r_iloadn f333_830 rfl) ?_
  refine w_iconst f333_831 (fun v831 hv831 => ?_)
  refine w_iadd f333_832 (by omega) (by omega) (fun v832 hv832 => ?_)
  refine w_xld f333_833 hX1 (by omega) (by omega) (fun v833 hv833 => ?_)
  refine wp1 (fun n d => r_aloadnX f333_834 rfl) ?_
  refine wp1 (fun n d => r_iloadn f333_835 rfl) ?_
  refine w_iconst f333_836 (fun v836 hv836 => ?_)
  refine w_iadd f333_837 (by omega) (by omega) (fun v837 hv837 => ?_)
  refine w_xld f333_838 hX1 (by omega) (by omega) (fun v838 hv838 => ?_)
  refine wp1 (fun n d => r_aloadnX f333_839 rfl) ?_
  refine wp1 (fun n d => r_iloadn f333_840 rfl) ?_
  refine w_iconst f333_841 (fun v841 hv841 => ?_)
  refine w_iadd f333_842 (by omega) (by omega) (fun v842 hv842 => ?_)
  refine w_xld f333_843 hX1 (by omega) (by omega) (fun v843 hv843 => ?_)
  refine wp1 (fun n d => r_aloadnX f333_844 rfl) ?_
  refine wp1 (fun n d => r_iloadn f333_845 rfl) ?_
  refine w_iconst f333_846 (fun v846 hv846 => ?_)
  refine w_iadd f333_847 (by omega) (by omega) (fun v847 hv847 => ?_)
  refine w_xld f333_848 hX1 (by omega) (by omega) (fun v848 hv848 => ?_)
  obtain ⟨fs1005, c1005⟩ := hI_o I1001 (r := 72) (ci := 12) (by decide +kernel)
  refine wp_good (G 75 (by decide) cC75 rfl) (Y := zM243) (show zmt[243]? = some zM243 from rfl) I1001 (ρ := [0, v833.toInt, v838.toInt, v843.toInt, v848.toInt]) (dK_v (kV_of rfl ⟨⟨by decide, by decide⟩, iR v833, iR v838, iR v843, iR v848, trivial⟩)) (dL_of (l := [some (.ref 72), some (.int v833), some (.int v838), some (.int v843), some (.int v848)]) ⟨lw_r (by decide), lw_i rfl, lw_i rfl, lw_i rfl, lw_i rfl, trivial⟩) (fun n d v h' e => r_virt (as := [.int v833, .int v838, .int v843, .int v848]) (r := []) f333_849 c1005 (show zmt[243]? = some zM243 from rfl) rfl rfl rfl rfl rfl rfl e) (by first | decide | (show 5 + 1 ≤ _; omega)) (fun v h1004 σ1004 I1004 G1004 P1004 => ?_)
  obtain ⟨v849, vq849⟩ : ∃ y : Int32, v = some (.int y) := by
    obtain ⟨P, hm, ρ', rh', kP, sP⟩ := P1004
    cases List.mem_singleton.mp hm
    cases v with
    | none => exact sP.elim
    | some v =>
      obtain ⟨⟨x, y, rfl, -, -⟩, -⟩ := sP
      exact ⟨x, rfl⟩
  subst vq849
  show Wp _ _ _ _ 852 [some (.retAddr 1), some (.ref 0), some (.ref 72), some (.int i)] [.int v849] _
  obtain ⟨fs1006, c1006, df1006⟩ := dG_o I1001.1 G1004 c1003 (by decide)
  obtain ⟨fs1007, c1007, df1007⟩ := dG_o I1001.1 G1004 c1005 (by decide)
  have GG : dG ([(16, 3), (27, 0), (28, 0), (29, 0), (30, 0), (31, 0), (42, 0), (146, 3), (146, 4), (146, 5), (147, 0), (148, 0), (149, 0), (150, 0), (151, 0), (152, 0), (153, 0), (72, 32), (72, 38), (72, 39), (98, 0), (99, 0), (100, 0), (101, 0), (102, 0), (103, 0), (104, 0), (105, 0), (106, 0), (107, 0), (108, 0), (109, 0), (110, 0)] : List (Nat × Nat)) σ h σ1004 h1004 := (dG_trans (dG_sub (by decide) G1001) (dG_sub (by decide) G1004))
  refine wp1 (fun nn dd => r_pop f333_852 rfl) ?_
  refine wp1 (fun nn dd => r_goto f333_853) ?_
  exact kq _ _ I1004 ⟨JQ_dG J I GG (by decide), JRing_dG K.1 I GG (by decide), JBody_dG K.2.1 I GG (by decide), JShelf_dG K.2.2 I GG (by decide)⟩ GG.2.2
theorem lc_18 {X : aX} (G : hG X 302) (hX : X 0 = some (8, zab)) {L : Nat} {xs : Nat → Int32} (hX1 : X 1 = some (L, xs)) (hL : L ≤ 3072) {i : Int32} (i0 : 0 ≤ i.toInt) (i1 : i.toInt + 6 ≤ L) {Q : Option Value → aH → Prop} {σ : List Nat} {h : aH} (I : dI σ h) (J : JX h) (kq : ∀ (σ' : List Nat) (h' : aH), dI σ' h' → JX h' → dPh h' ≤ dPh h → Wp X 64 zM333 Q 2075 [some (.retAddr 1), some (.ref 0), some (.ref 72), some (.int i)] [] h') : Wp X 64 zM333 Q 856 [some (.retAddr 1), some (.ref 0), some (.ref 72), some (.int i)] [] h := by
  obtain ⟨J, K⟩ := J
  refine wp1 (fun n d => r_aloadn f333_856 rfl) ?_
  refine wp1 (fun n d => r_aloadnX f333_857 rfl) ?_
  refine wp1 (fun n d => r_iloadn f333_858 rfl) ?_
  refine w_iconst f333_859 (fun v859 hv859 => ?_)
  refine w_iadd f333_860 (by omega) (by omega) (fun v860 hv860 => ?_)
  refine w_xld f333_861 hX1 (by omega) (by omega) (fun v861 hv861 => ?_)
  refine wp1 (fun n d => r_aloadnX f333_862 rfl) ?_
  refine wp1 (fun n d => r_iloadn f333_863 rfl) ?_
  refine w_iconst f333_864 (fun v864 hv864 => ?_)
  refine w_iadd f333_865 (by omega) (by omega) (fun v865 hv865 => ?_)
  refine w_xld f333_866 hX1 (by omega) (by omega) (fun v866 hv866 => ?_)
  obtain ⟨fs1002, c1002⟩ := hI_o I (r := 0) (ci := 11) (by decide +kernel)
  refine wp_good (G 76 (by decide) cC76 rfl) (Y := zM162) (show zmt[162]? = some zM162 from rfl) I (ρ := [0, v861.toInt, v866.toInt]) (dK_v (kV_of rfl ⟨⟨by decide, by decide⟩, iR v861, iR v866, trivial⟩)) (dL_of (l := [some (.ref 0), some (.int v861), some (.int v866)]) ⟨lw_r (by decide), lw_i rfl, lw_i rfl, trivial⟩) (fun n d v h' e => r_virt (as := [.int v861, .int v866]) (r := []) f333_867 c1002 (show zmt[162]? = some zM162 from rfl) rfl rfl rfl rfl rfl rfl e) (by first | decide | (show 3 + 1 ≤ _; omega)) (fun v h1001 σ1001 I1001 G1001 P1001 => ?_)
  obtain ⟨v867, vq867⟩ : ∃ y : Int32, v = some (.int y) := by
    obtain ⟨P, hm, ρ', rh', kP, sP⟩ := P1001
    cases List.mem_singleton.mp hm
    cases v with
    | none => exact sP.elim
    | some v =>
      obtain ⟨⟨x, y, rfl, -, -⟩, -⟩ := sP
      exact ⟨x, rfl⟩
  subst vq867
  show Wp _ _ _ _ 870 [some (.retAddr 1), some (.ref 0), some (.ref 72), some (.int i)] [.int v867] _
  obtain ⟨fs1003, c1003, df1003⟩ := dG_o I.1 G1001 c1002 (by decide)
  refine wp1 (fun nn dd => r_pop f333_870 rfl) ?_
  refine wp1 (fun n d => r_aloadn f333_871 rfl) ?_
  refine wp1 (fun n d => r_aloadnX f333_872 rfl) ?_
  refine wp1 (fun n d => r_iloadn f333_873 rfl) ?_
  refine w_iconst f333_874 (fun v874 hv874 => ?_)
  refine w_iadd f333_875 (by omega) (by omega) (fun v875 hv875 => ?_)
  refine w_xld f333_876 hX1 (by omega) (by omega) (fun v876 hv876 => ?_)
  refine wp1 (fun n d => r_aloadnX f333_877 rfl) ?_
  refine wp1 (fun n d => r_iloadn f333_878 rfl) ?_
  refine w_iconst f333_879 (fun v879 hv879 => ?_)
  refine w_iadd f333_880 (by omega) (by omega) (fun v880 hv880 => ?_)
  refine w_xld f333_881 hX1 (by omega) (by omega) (fun v881 hv881 => ?_)
  obtain ⟨fs1005, c1005⟩ := hI_o I1001 (r := 72) (ci := 12) (by decide +kernel)
  refine wp_good (G 77 (by decide) cC77 rfl) (Y := zM244) (show zmt[244]? = some zM244 from rfl) I1001 (ρ := [0, v876.toInt, v881.toInt]) (dK_v (kV_of rfl ⟨⟨by decide, by decide⟩, iR v876, iR v881, trivial⟩)) (dL_of (l := [some (.ref 72), some (.int v876), some (.int v881)]) ⟨lw_r (by decide), lw_i rfl, lw_i rfl, trivial⟩) (fun n d v h' e => r_virt (as := [.int v876, .int v881]) (r := []) f333_882 c1005 (show zmt[244]? = some zM244 from rfl) rfl rfl rfl rfl rfl rfl e) (by first | decide | (show 3 + 1 ≤ _; omega)) (fun v h1004 σ1004 I1004 G1004 P1004 => ?_)
  obtain ⟨v882, vq882⟩ : ∃ y : Int32, v = some (.int y) := by
    obtain ⟨P, hm, ρ', rh', kP, sP⟩ := P1004
    cases List.mem_singleton.mp hm
    cases v with
    | none => exact sP.elim
    | some v =>
      obtain ⟨⟨x, y, rfl, -, -⟩, -⟩ := sP
      exact ⟨x, rfl⟩
  subst vq882
  show Wp _ _ _ _ 885 [some (.retAddr 1), some (.ref 0), some (.ref 72), some (.int i)] [.int v882] _
  obtain ⟨fs1006, c1006, df1006⟩ := dG_o I1001.1 G1004 c1003 (by decide)
  obtain ⟨fs1007, c1007, df1007⟩ := dG_o I1001.1 G1004 c1005 (by decide)
  have GG : dG ([(32, 0), (111, 0)] : List (Nat × Nat)) σ h σ1004 h1004 := (dG_trans (dG_sub (by decide) G1001) (dG_sub (by decide) G1004))
  refine wp1 (fun nn dd => r_pop f333_885 rfl) ?_
  refine wp1 (fun nn dd => r_goto f333_886) ?_
  exact kq _ _ I1004 ⟨JQ_dG J I GG (by decide), JRing_dG K.1 I GG (by decide), JBody_dG K.2.1 I GG (by decide), JShelf_dG K.2.2 I GG (by decide)⟩ GG.2.2
theorem lc_19 {X : aX} (G : hG X 302) (hX : X 0 = some (8, zab)) {L : Nat} {xs : Nat → Int32} (hX1 : X 1 = some (L, xs)) (hL : L ≤ 3072) {i : Int32} (i0 : 0 ≤ i.toInt) (i1 : i.toInt + 6 ≤ L) {Q : Option Value → aH → Prop} {σ : List Nat} {h : aH} (I : dI σ h) (J : JX h) (kq : ∀ (σ' : List Nat) (h' : aH), dI σ' h' → JX h' → dPh h' ≤ dPh h → Wp X 64 zM333 Q 2075 [some (.retAddr 1), some (.ref 0), some (.ref 72), some (.int i)] [] h') : Wp X 64 zM333 Q 889 [some (.retAddr 1), some (.ref 0), some (.ref 72), some (.int i)] [] h := by
  obtain ⟨J, K⟩ := J
  obtain ⟨fs0, c0⟩ := hI_o I (r := 0) (ci := 11) (by decide +kernel)
  obtain ⟨g, g', c1, c2, e⟩ := J.2.2.2.2
  refine wp1 (fun n d => r_aloadn f333_889 rfl) ?_
  refine wp1 (fun n d => r_aloadnX f333_890 rfl) ?_
  refine wp1 (fun n d => r_iloadn f333_891 rfl) ?_
  refine w_iconst f333_892 (fun v892 hv892 => ?_)
  refine w_iadd f333_893 (by omega) (by omega) (fun v893 hv893 => ?_)
  refine w_xld f333_894 hX1 (by omega) (by omega) (fun v894 hv894 => ?_)
  refine wp1 (fun n d => r_aloadnX f333_895 rfl) ?_
  refine wp1 (fun n d => r_iloadn f333_896 rfl) ?_
  refine w_iconst f333_897 (fun v897 hv897 => ?_)
  refine w_iadd f333_898 (by omega) (by omega) (fun v898 hv898 => ?_)
  refine w_xld f333_899 hX1 (by omega) (by omega) (fun v899 hv899 => ?_)
  refine wp1 (fun n d => r_aloadnX f333_900 rfl) ?_
  refine wp1 (fun n d => r_iloadn f333_901 rfl) ?_
  refine w_iconst f333_902 (fun v902 hv902 => ?_)
  refine w_iadd f333_903 (by omega) (by omega) (fun v903 hv903 => ?_)
  refine w_xld f333_904 hX1 (by omega) (by omega) (fun v904 hv904 => ?_)
  refine wp_in (lv := 2) (Y := zM163) (colour_163 (x := v894) (y := v899) (z := v904) I c1) (fun n d v h' e => r_virt (as := [.int v894, .int v899, .int v904]) (r := []) f333_905 c0 (show zmt[163]? = some zM163 from rfl) rfl rfl rfl rfl rfl rfl e) (by decide) ?_
  rintro v' h1 ⟨I1, G1, r1, g1, rfl, d1, k1⟩
  have d2 := dG_a I.1 G1 c2 (by decide) rfl
  show Wp _ _ _ _ 908 [some (.retAddr 1), some (.ref 0), some (.ref 72), some (.int i)] [.int r1] _
  refine wp1 (fun nn dd => r_pop f333_908 rfl) ?_
  obtain ⟨fs72, c72⟩ := hI_o I1 (r := 72) (ci := 12) (by decide +kernel)
  refine wp1 (fun n d => r_aloadn f333_909 rfl) ?_
  refine wp1 (fun n d => r_aloadnX f333_910 rfl) ?_
  refine wp1 (fun n d => r_iloadn f333_911 rfl) ?_
  refine w_iconst f333_912 (fun v912 hv912 => ?_)
  refine w_iadd f333_913 (by omega) (by omega) (fun v913 hv913 => ?_)
  refine w_xld f333_914 hX1 (by omega) (by omega) (fun v914 hv914 => ?_)
  refine wp1 (fun n d => r_aloadnX f333_915 rfl) ?_
  refine wp1 (fun n d => r_iloadn f333_916 rfl) ?_
  refine w_iconst f333_917 (fun v917 hv917 => ?_)
  refine w_iadd f333_918 (by omega) (by omega) (fun v918 hv918 => ?_)
  refine w_xld f333_919 hX1 (by omega) (by omega) (fun v919 hv919 => ?_)
  refine wp1 (fun n d => r_aloadnX f333_920 rfl) ?_
  refine wp1 (fun n d => r_iloadn f333_921 rfl) ?_
  refine w_iconst f333_922 (fun v922 hv922 => ?_)
  refine w_iadd f333_923 (by omega) (by omega) (fun v923 hv923 => ?_)
  refine w_xld f333_924 hX1 (by omega) (by omega) (fun v924 hv924 => ?_)
  refine wp_in (lv := 1) (Y := zM245) (colour_245 (x := v914) (y := v919) (z := v924) I1 d2) (fun n d v h' e => r_virt (as := [.int v914, .int v919, .int v924]) (r := []) f333_925 c72 (show zmt[245]? = some zM245 from rfl) rfl rfl rfl rfl rfl rfl e) (by decide) ?_
  have ev914 : v914 = v894 := by rw [hv914, hv894]; exact congrArg xs (by omega)
  have ev919 : v919 = v899 := by rw [hv919, hv899]; exact congrArg xs (by omega)
  have ev924 : v924 = v904 := by rw [hv924, hv904]; exact congrArg xs (by omega)
  rintro v' h2 ⟨I2, G2, r2, g2, rfl, d3, k2⟩
  have d4 := dG_a I1.1 G2 d1 (by decide) rfl
  rw [ev914, ev919, ev924] at k2
  obtain ⟨z1, z2⟩ := clc_eq k1 k2 e
  show Wp _ _ _ _ 928 [some (.retAddr 1), some (.ref 0), some (.ref 72), some (.int i)] [.int r2] _
  have GG : dG ([(64, 0), (112, 0)] : List (Nat × Nat)) σ h σ h2 := dG_trans (dG_sub (by decide) G1) (dG_sub (by decide) G2)
  refine wp1 (fun nn dd => r_pop f333_928 rfl) ?_
  refine wp1 (fun nn dd => r_goto f333_929) ?_
  exact kq σ h2 I2 ⟨⟨JP_dG J.1 I GG (by decide), JF_dG J.2.1 I GG (by decide), JA_dG J.2.2.1 I GG (by decide), JA_dG J.2.2.2.1 I GG (by decide), ⟨g1, g2, d4, d3, z2⟩⟩, JRing_dG K.1 I GG (by decide), JBody_dG K.2.1 I GG (by decide), JShelf_dG K.2.2 I GG (by decide)⟩ GG.2.2
theorem lc_20 {X : aX} (G : hG X 302) (hX : X 0 = some (8, zab)) {L : Nat} {xs : Nat → Int32} (hX1 : X 1 = some (L, xs)) (hL : L ≤ 3072) {i : Int32} (i0 : 0 ≤ i.toInt) (i1 : i.toInt + 6 ≤ L) {Q : Option Value → aH → Prop} {σ : List Nat} {h : aH} (I : dI σ h) (J : JX h) (kq : ∀ (σ' : List Nat) (h' : aH), dI σ' h' → JX h' → dPh h' ≤ dPh h → Wp X 64 zM333 Q 2075 [some (.retAddr 1), some (.ref 0), some (.ref 72), some (.int i)] [] h') : Wp X 64 zM333 Q 932 [some (.retAddr 1), some (.ref 0), some (.ref 72), some (.int i)] [] h := by
  obtain ⟨J, K⟩ := J
  refine wp1 (fun n d => r_aloadn f333_932 rfl) ?_
  refine wp1 (fun n d => r_aloadnX f333_933 rfl) ?_
  refine wp1 (fun n d => r_iloadn f333_934 rfl) ?_
  refine w_iconst f333_935 (fun v935 hv935 => ?_)
  refine w_iadd f333_936 (by omega) (by omega) (fun v936 hv936 => ?_)
  refine w_xld f333_937 hX1 (by omega) (by omega) (fun v937 hv937 => ?_)
  refine wp1 (fun n d => r_aloadnX f333_938 rfl) ?_
  refine wp1 (fun n d => r_iloadn f333_939 rfl) ?_
  refine w_iconst f333_940 (fun v940 hv940 => ?_)
  refine w_iadd f333_941 (by omega) (by omega) (fun v941 hv941 => ?_)
  refine w_xld f333_942 hX1 (by omega) (by omega) (fun v942 hv942 => ?_)
  refine wp1 (fun n d => r_aloadnX f333_943 rfl) ?_
  refine wp1 (fun n d => r_iloadn f333_944 rfl) ?_
  refine w_iconst f333_945 (fun v945 hv945 => ?_)
  refine w_iadd f333_946 (by omega) (by omega) (fun v946 hv946 => ?_)
  refine w_xld f333_947 hX1 (by omega) (by omega) (fun v947 hv947 => ?_)
  refine wp1 (fun n d => r_aloadnX f333_948 rfl) ?_
  refine wp1 (fun n d => r_iloadn f333_949 rfl) ?_
  refine w_iconst f333_950 (fun v950 hv950 => ?_)
  refine w_iadd f333_951 (by omega) (by omega) (fun v951 hv951 => ?_)
  refine w_xld f333_952 hX1 (by omega) (by omega) (fun v952 hv952 => ?_)
  obtain ⟨fs1002, c1002⟩ := hI_o I (r := 0) (ci := 11) (by decide +kernel)
  refine wp_good (G 81 (by decide) cC81 rfl) (Y := zM164) (show zmt[164]? = some zM164 from rfl) I (ρ := [0, v937.toInt, v942.toInt, v947.toInt, v952.toInt]) (dK_v (kV_of rfl ⟨⟨by decide, by decide⟩, iR v937, iR v942, iR v947, iR v952, trivial⟩)) (dL_of (l := [some (.ref 0), some (.int v937), some (.int v942), some (.int v947), some (.int v952), none]) ⟨lw_r (by decide), lw_i rfl, lw_i rfl, lw_i rfl, lw_i rfl, lw_0, trivial⟩) (fun n d v h' e => r_virt (as := [.int v937, .int v942, .int v947, .int v952]) (r := []) f333_953 c1002 (show zmt[164]? = some zM164 from rfl) rfl rfl rfl rfl rfl rfl e) (by first | decide | (show 7 + 1 ≤ _; omega)) (fun v h1001 σ1001 I1001 G1001 P1001 => ?_)
  obtain ⟨v953, vq953⟩ : ∃ y : Int32, v = some (.int y) := by
    obtain ⟨P, hm, ρ', rh', kP, sP⟩ := P1001
    cases List.mem_singleton.mp hm
    cases v with
    | none => exact sP.elim
    | some v =>
      obtain ⟨⟨x, y, rfl, -, -⟩, -⟩ := sP
      exact ⟨x, rfl⟩
  subst vq953
  show Wp _ _ _ _ 956 [some (.retAddr 1), some (.ref 0), some (.ref 72), some (.int i)] [.int v953] _
  obtain ⟨fs1003, c1003, df1003⟩ := dG_o I.1 G1001 c1002 (by decide)
  refine wp1 (fun nn dd => r_pop f333_956 rfl) ?_
  refine wp1 (fun n d => r_aloadn f333_957 rfl) ?_
  refine wp1 (fun n d => r_aloadnX f333_958 rfl) ?_
  refine wp1 (fun n d => r_iloadn f333_959 rfl) ?_
  refine w_iconst f333_960 (fun v960 hv960 => ?_)
  refine w_iadd f333_961 (by omega) (by omega) (fun v961 hv961 => ?_)
  refine w_xld f333_962 hX1 (by omega) (by omega) (fun v962 hv962 => ?_)
  refine wp1 (fun n d => r_aloadnX f333_963 rfl) ?_
  refine wp1 (fun n d => r_iloadn f333_964 rfl) ?_
  refine w_iconst f333_965 (fun v965 hv965 => ?_)
  refine w_iadd f333_966 (by omega) (by omega) (fun v966 hv966 => ?_)
  refine w_xld f333_967 hX1 (by omega) (by omega) (fun v967 hv967 => ?_)
  refine wp1 (fun n d => r_aloadnX f333_968 rfl) ?_
  refine wp1 (fun n d => r_iloadn f333_969 rfl) ?_
  refine w_iconst f333_970 (fun v970 hv970 => ?_)
  refine w_iadd f333_971 (by omega) (by omega) (fun v971 hv971 => ?_)
  refine w_xld f333_972 hX1 (by omega) (by omega) (fun v972 hv972 => ?_)
  refine wp1 (fun n d => r_aloadnX f333_973 rfl) ?_
  refine wp1 (fun n d => r_iloadn f333_974 rfl) ?_
  refine w_iconst f333_975 (fun v975 hv975 => ?_)
  refine w_iadd f333_976 (by omega) (by omega) (fun v976 hv976 => ?_)
  refine w_xld f333_977 hX1 (by omega) (by omega) (fun v977 hv977 => ?_)
  obtain ⟨fs1005, c1005⟩ := hI_o I1001 (r := 72) (ci := 12) (by decide +kernel)
  refine wp_good (G 82 (by decide) cC82 rfl) (Y := zM247) (show zmt[247]? = some zM247 from rfl) I1001 (ρ := [0, v962.toInt, v967.toInt, v972.toInt, v977.toInt]) (dK_v (kV_of rfl ⟨⟨by decide, by decide⟩, iR v962, iR v967, iR v972, iR v977, trivial⟩)) (dL_of (l := [some (.ref 72), some (.int v962), some (.int v967), some (.int v972), some (.int v977), none, none, none, none, none, none]) ⟨lw_r (by decide), lw_i rfl, lw_i rfl, lw_i rfl, lw_i rfl, lw_0, lw_0, lw_0, lw_0, lw_0, lw_0, trivial⟩) (fun n d v h' e => r_virt (as := [.int v962, .int v967, .int v972, .int v977]) (r := []) f333_978 c1005 (show zmt[247]? = some zM247 from rfl) rfl rfl rfl rfl rfl rfl e) (by first | decide | (show 3 + 1 ≤ _; omega)) (fun v h1004 σ1004 I1004 G1004 P1004 => ?_)
  obtain ⟨v978, vq978⟩ : ∃ y : Int32, v = some (.int y) := by
    obtain ⟨P, hm, ρ', rh', kP, sP⟩ := P1004
    cases List.mem_singleton.mp hm
    cases v with
    | none => exact sP.elim
    | some v =>
      obtain ⟨⟨x, y, rfl, -, -⟩, -⟩ := sP
      exact ⟨x, rfl⟩
  subst vq978
  show Wp _ _ _ _ 981 [some (.retAddr 1), some (.ref 0), some (.ref 72), some (.int i)] [.int v978] _
  obtain ⟨fs1006, c1006, df1006⟩ := dG_o I1001.1 G1004 c1003 (by decide)
  obtain ⟨fs1007, c1007, df1007⟩ := dG_o I1001.1 G1004 c1005 (by decide)
  have GG : dG ([(65, 0), (154, 0), (113, 0), (114, 0)] : List (Nat × Nat)) σ h σ1004 h1004 := (dG_trans (dG_sub (by decide) G1001) (dG_sub (by decide) G1004))
  refine wp1 (fun nn dd => r_pop f333_981 rfl) ?_
  refine wp1 (fun nn dd => r_goto f333_982) ?_
  exact kq _ _ I1004 ⟨JQ_dG J I GG (by decide), JRing_dG K.1 I GG (by decide), JBody_dG K.2.1 I GG (by decide), JShelf_dG K.2.2 I GG (by decide)⟩ GG.2.2
theorem lc_21 {X : aX} (G : hG X 302) (hX : X 0 = some (8, zab)) {L : Nat} {xs : Nat → Int32} (hX1 : X 1 = some (L, xs)) (hL : L ≤ 3072) {i : Int32} (i0 : 0 ≤ i.toInt) (i1 : i.toInt + 6 ≤ L) {Q : Option Value → aH → Prop} {σ : List Nat} {h : aH} (I : dI σ h) (J : JX h) (kq : ∀ (σ' : List Nat) (h' : aH), dI σ' h' → JX h' → dPh h' ≤ dPh h → Wp X 64 zM333 Q 2075 [some (.retAddr 1), some (.ref 0), some (.ref 72), some (.int i)] [] h') : Wp X 64 zM333 Q 985 [some (.retAddr 1), some (.ref 0), some (.ref 72), some (.int i)] [] h := by
  obtain ⟨J, K⟩ := J
  obtain ⟨fs0, c0⟩ := hI_o I (r := 0) (ci := 11) (by decide +kernel)
  obtain ⟨fs, fs', t, c1, a1, c2, a2⟩ := J.2.1
  refine wp1 (fun n d => r_aloadn f333_985 rfl) ?_
  refine wp1 (fun n d => r_aloadnX f333_986 rfl) ?_
  refine wp1 (fun n d => r_iloadn f333_987 rfl) ?_
  refine w_iconst f333_988 (fun v988 hv988 => ?_)
  refine w_iadd f333_989 (by omega) (by omega) (fun v989 hv989 => ?_)
  refine w_xld f333_990 hX1 (by omega) (by omega) (fun v990 hv990 => ?_)
  refine wp_in (lv := 0) (Y := zM165) (blank_165 (x := v990) I c1 a1) (fun n d v h' e => r_virt (as := [.int v990]) (r := []) f333_991 c0 (show zmt[165]? = some zM165 from rfl) rfl rfl rfl rfl rfl rfl e) (by decide) ?_
  rintro v' h1 ⟨I1, G1, gs, rfl, d1, b1⟩
  obtain ⟨gs2, d2, e2⟩ := dG_o I.1 G1 c2 (by decide)
  have b2 := (e2 52 rfl).trans a2
  show Wp _ _ _ _ 994 [some (.retAddr 1), some (.ref 0), some (.ref 72), some (.int i)] [.int t] _
  refine wp1 (fun nn dd => r_pop f333_994 rfl) ?_
  obtain ⟨fs72, c72⟩ := hI_o I1 (r := 72) (ci := 12) (by decide +kernel)
  refine wp1 (fun n d => r_aloadn f333_995 rfl) ?_
  refine wp1 (fun n d => r_aloadnX f333_996 rfl) ?_
  refine wp1 (fun n d => r_iloadn f333_997 rfl) ?_
  refine w_iconst f333_998 (fun v998 hv998 => ?_)
  refine w_iadd f333_999 (by omega) (by omega) (fun v999 hv999 => ?_)
  refine w_xld f333_1000 hX1 (by omega) (by omega) (fun v1000 hv1000 => ?_)
  refine wp_in (lv := 0) (Y := zM246) (blank_246 (x := v1000) I1 d2 b2) (fun n d v h' e => r_virt (as := [.int v1000]) (r := []) f333_1001 c72 (show zmt[246]? = some zM246 from rfl) rfl rfl rfl rfl rfl rfl e) (by decide) ?_
  have ev1000 : v1000 = v990 := by rw [hv1000, hv990]; exact congrArg xs (by omega)
  rintro v' h2 ⟨I2, G2, gs3, rfl, d3, b3⟩
  obtain ⟨gs4, d4, e4⟩ := dG_o I1.1 G2 d1 (by decide)
  rw [ev1000] at b3
  show Wp _ _ _ _ 1004 [some (.retAddr 1), some (.ref 0), some (.ref 72), some (.int i)] [.int t] _
  have GG : dG ([(63, 1), (72, 52)] : List (Nat × Nat)) σ h σ h2 := dG_trans (dG_sub (by decide) G1) (dG_sub (by decide) G2)
  refine wp1 (fun nn dd => r_pop f333_1004 rfl) ?_
  refine wp1 (fun nn dd => r_goto f333_1005) ?_
  exact kq σ h2 I2 ⟨⟨JP_dG J.1 I GG (by decide), ⟨gs4, gs3, v990, d4, (e4 1 rfl).trans b1, d3, b3⟩, JA_dG J.2.2.1 I GG (by decide), JA_dG J.2.2.2.1 I GG (by decide), JA_dG J.2.2.2.2 I GG (by decide)⟩, JRing_dG K.1 I GG (by decide), JBody_dG K.2.1 I GG (by decide), JShelf_dG K.2.2 I GG (by decide)⟩ GG.2.2
theorem lc_22 {X : aX} (G : hG X 302) (hX : X 0 = some (8, zab)) {L : Nat} {xs : Nat → Int32} (hX1 : X 1 = some (L, xs)) (hL : L ≤ 3072) {i : Int32} (i0 : 0 ≤ i.toInt) (i1 : i.toInt + 6 ≤ L) {Q : Option Value → aH → Prop} {σ : List Nat} {h : aH} (I : dI σ h) (J : JX h) (kq : ∀ (σ' : List Nat) (h' : aH), dI σ' h' → JX h' → dPh h' ≤ dPh h → Wp X 64 zM333 Q 2075 [some (.retAddr 1), some (.ref 0), some (.ref 72), some (.int i)] [] h') : Wp X 64 zM333 Q 1008 [some (.retAddr 1), some (.ref 0), some (.ref 72), some (.int i)] [] h := by
  obtain ⟨J, K⟩ := J
  refine wp1 (fun n d => r_aloadn f333_1008 rfl) ?_
  refine wp1 (fun n d => r_aloadnX f333_1009 rfl) ?_
  refine wp1 (fun n d => r_iloadn f333_1010 rfl) ?_
  refine w_iconst f333_1011 (fun v1011 hv1011 => ?_)
  refine w_iadd f333_1012 (by omega) (by omega) (fun v1012 hv1012 => ?_)
  refine w_xld f333_1013 hX1 (by omega) (by omega) (fun v1013 hv1013 => ?_)
  refine wp1 (fun n d => r_aloadnX f333_1014 rfl) ?_
  refine wp1 (fun n d => r_iloadn f333_1015 rfl) ?_
  refine w_iconst f333_1016 (fun v1016 hv1016 => ?_)
  refine w_iadd f333_1017 (by omega) (by omega) (fun v1017 hv1017 => ?_)
  refine w_xld f333_1018 hX1 (by omega) (by omega) (fun v1018 hv1018 => ?_)
  refine wp1 (fun n d => r_aloadnX f333_1019 rfl) ?_
  refine wp1 (fun n d => r_iloadn f333_1020 rfl) ?_
  refine w_iconst f333_1021 (fun v1021 hv1021 => ?_)
  refine w_iadd f333_1022 (by omega) (by omega) (fun v1022 hv1022 => ?_)
  refine w_xld f333_1023 hX1 (by omega) (by omega) (fun v1023 hv1023 => ?_)
  obtain ⟨fs1002, c1002⟩ := hI_o I (r := 0) (ci := 11) (by decide +kernel)
  refine wp_good (G 88 (by decide) cC88 rfl) (Y := zM166) (show zmt[166]? = some zM166 from rfl) I (ρ := [0, v1013.toInt, v1018.toInt, v1023.toInt]) (dK_v (kV_of rfl ⟨⟨by decide, by decide⟩, iR v1013, iR v1018, iR v1023, trivial⟩)) (dL_of (l := [some (.ref 0), some (.int v1013), some (.int v1018), some (.int v1023)]) ⟨lw_r (by decide), lw_i rfl, lw_i rfl, lw_i rfl, trivial⟩) (fun n d v h' e => r_virt (as := [.int v1013, .int v1018, .int v1023]) (r := []) f333_1024 c1002 (show zmt[166]? = some zM166 from rfl) rfl rfl rfl rfl rfl rfl e) (by first | decide | (show 3 + 1 ≤ _; omega)) (fun v h1001 σ1001 I1001 G1001 P1001 => ?_)
  obtain ⟨v1024, vq1024⟩ : ∃ y : Int32, v = some (.int y) := by
    obtain ⟨P, hm, ρ', rh', kP, sP⟩ := P1001
    cases List.mem_singleton.mp hm
    cases v with
    | none => exact sP.elim
    | some v =>
      obtain ⟨⟨x, y, rfl, -, -⟩, -⟩ := sP
      exact ⟨x, rfl⟩
  subst vq1024
  show Wp _ _ _ _ 1027 [some (.retAddr 1), some (.ref 0), some (.ref 72), some (.int i)] [.int v1024] _
  obtain ⟨fs1003, c1003, df1003⟩ := dG_o I.1 G1001 c1002 (by decide)
  refine wp1 (fun nn dd => r_pop f333_1027 rfl) ?_
  refine wp1 (fun n d => r_aloadn f333_1028 rfl) ?_
  refine wp1 (fun n d => r_aloadnX f333_1029 rfl) ?_
  refine wp1 (fun n d => r_iloadn f333_1030 rfl) ?_
  refine w_iconst f333_1031 (fun v1031 hv1031 => ?_)
  refine w_iadd f333_1032 (by omega) (by omega) (fun v1032 hv1032 => ?_)
  refine w_xld f333_1033 hX1 (by omega) (by omega) (fun v1033 hv1033 => ?_)
  refine wp1 (fun n d => r_aloadnX f333_1034 rfl) ?_
  refine wp1 (fun n d => r_iloadn f333_1035 rfl) ?_
  refine w_iconst f333_1036 (fun v1036 hv1036 => ?_)
  refine w_iadd f333_1037 (by omega) (by omega) (fun v1037 hv1037 => ?_)
  refine w_xld f333_1038 hX1 (by omega) (by omega) (fun v1038 hv1038 => ?_)
  refine wp1 (fun n d => r_aloadnX f333_1039 rfl) ?_
  refine wp1 (fun n d => r_iloadn f333_1040 rfl) ?_
  refine w_iconst f333_1041 (fun v1041 hv1041 => ?_)
  refine w_iadd f333_1042 (by omega) (by omega) (fun v1042 hv1042 => ?_)
  refine w_xld f333_1043 hX1 (by omega) (by omega) (fun v1043 hv1043 => ?_)
  obtain ⟨fs1005, c1005⟩ := hI_o I1001 (r := 72) (ci := 12) (by decide +kernel)
  refine wp_good (G 91 (by decide) cC91 rfl) (Y := zM249) (show zmt[249]? = some zM249 from rfl) I1001 (ρ := [0, v1033.toInt, v1038.toInt, v1043.toInt]) (dK_v (kV_of rfl ⟨⟨by decide, by decide⟩, iR v1033, iR v1038, iR v1043, trivial⟩)) (dL_of (l := [some (.ref 72), some (.int v1033), some (.int v1038), some (.int v1043), none, none, none, none]) ⟨lw_r (by decide), lw_i rfl, lw_i rfl, lw_i rfl, lw_0, lw_0, lw_0, lw_0, trivial⟩) (fun n d v h' e => r_virt (as := [.int v1033, .int v1038, .int v1043]) (r := []) f333_1044 c1005 (show zmt[249]? = some zM249 from rfl) rfl rfl rfl rfl rfl rfl e) (by first | decide | (show 3 + 1 ≤ _; omega)) (fun v h1004 σ1004 I1004 G1004 P1004 => ?_)
  obtain ⟨v1044, vq1044⟩ : ∃ y : Int32, v = some (.int y) := by
    obtain ⟨P, hm, ρ', rh', kP, sP⟩ := P1004
    cases List.mem_singleton.mp hm
    cases v with
    | none => exact sP.elim
    | some v =>
      obtain ⟨⟨x, y, rfl, -, -⟩, -⟩ := sP
      exact ⟨x, rfl⟩
  subst vq1044
  show Wp _ _ _ _ 1047 [some (.retAddr 1), some (.ref 0), some (.ref 72), some (.int i)] [.int v1044] _
  obtain ⟨fs1006, c1006, df1006⟩ := dG_o I1001.1 G1004 c1003 (by decide)
  obtain ⟨fs1007, c1007, df1007⟩ := dG_o I1001.1 G1004 c1005 (by decide)
  have GG : dG ([] : List (Nat × Nat)) σ h σ1004 h1004 := (dG_trans (dG_sub (by decide) G1001) (dG_sub (by decide) G1004))
  refine wp1 (fun nn dd => r_pop f333_1047 rfl) ?_
  refine wp1 (fun nn dd => r_goto f333_1048) ?_
  exact kq _ _ I1004 ⟨JQ_dG J I GG (by decide), JRing_dG K.1 I GG (by decide), JBody_dG K.2.1 I GG (by decide), JShelf_dG K.2.2 I GG (by decide)⟩ GG.2.2
theorem lc_23 {X : aX} (G : hG X 302) (hX : X 0 = some (8, zab)) {L : Nat} {xs : Nat → Int32} (hX1 : X 1 = some (L, xs)) (hL : L ≤ 3072) {i : Int32} (i0 : 0 ≤ i.toInt) (i1 : i.toInt + 6 ≤ L) {Q : Option Value → aH → Prop} {σ : List Nat} {h : aH} (I : dI σ h) (J : JX h) (kq : ∀ (σ' : List Nat) (h' : aH), dI σ' h' → JX h' → dPh h' ≤ dPh h → Wp X 64 zM333 Q 2075 [some (.retAddr 1), some (.ref 0), some (.ref 72), some (.int i)] [] h') : Wp X 64 zM333 Q 1051 [some (.retAddr 1), some (.ref 0), some (.ref 72), some (.int i)] [] h := by
  obtain ⟨J, K⟩ := J
  refine wp1 (fun n d => r_aloadn f333_1051 rfl) ?_
  refine wp1 (fun n d => r_aloadnX f333_1052 rfl) ?_
  refine wp1 (fun n d => r_iloadn f333_1053 rfl) ?_
  refine w_iconst f333_1054 (fun v1054 hv1054 => ?_)
  refine w_iadd f333_1055 (by omega) (by omega) (fun v1055 hv1055 => ?_)
  refine w_xld f333_1056 hX1 (by omega) (by omega) (fun v1056 hv1056 => ?_)
  refine wp1 (fun n d => r_aloadnX f333_1057 rfl) ?_
  refine wp1 (fun n d => r_iloadn f333_1058 rfl) ?_
  refine w_iconst f333_1059 (fun v1059 hv1059 => ?_)
  refine w_iadd f333_1060 (by omega) (by omega) (fun v1060 hv1060 => ?_)
  refine w_xld f333_1061 hX1 (by omega) (by omega) (fun v1061 hv1061 => ?_)
  obtain ⟨fs1002, c1002⟩ := hI_o I (r := 0) (ci := 11) (by decide +kernel)
  refine wp_good (G 93 (by decide) cC93 rfl) (Y := zM167) (show zmt[167]? = some zM167 from rfl) I (ρ := [0, v1056.toInt, v1061.toInt]) (dK_v (kV_of rfl ⟨⟨by decide, by decide⟩, iR v1056, iR v1061, trivial⟩)) (dL_of (l := [some (.ref 0), some (.int v1056), some (.int v1061)]) ⟨lw_r (by decide), lw_i rfl, lw_i rfl, trivial⟩) (fun n d v h' e => r_virt (as := [.int v1056, .int v1061]) (r := []) f333_1062 c1002 (show zmt[167]? = some zM167 from rfl) rfl rfl rfl rfl rfl rfl e) (by first | decide | (show 1 + 1 ≤ _; omega)) (fun v h1001 σ1001 I1001 G1001 P1001 => ?_)
  obtain ⟨v1062, vq1062⟩ : ∃ y : Int32, v = some (.int y) := by
    obtain ⟨P, hm, ρ', rh', kP, sP⟩ := P1001
    cases List.mem_singleton.mp hm
    cases v with
    | none => exact sP.elim
    | some v =>
      obtain ⟨⟨x, y, rfl, -, -⟩, -⟩ := sP
      exact ⟨x, rfl⟩
  subst vq1062
  show Wp _ _ _ _ 1065 [some (.retAddr 1), some (.ref 0), some (.ref 72), some (.int i)] [.int v1062] _
  obtain ⟨fs1003, c1003, df1003⟩ := dG_o I.1 G1001 c1002 (by decide)
  refine wp1 (fun nn dd => r_pop f333_1065 rfl) ?_
  refine wp1 (fun n d => r_aloadn f333_1066 rfl) ?_
  refine wp1 (fun n d => r_aloadnX f333_1067 rfl) ?_
  refine wp1 (fun n d => r_iloadn f333_1068 rfl) ?_
  refine w_iconst f333_1069 (fun v1069 hv1069 => ?_)
  refine w_iadd f333_1070 (by omega) (by omega) (fun v1070 hv1070 => ?_)
  refine w_xld f333_1071 hX1 (by omega) (by omega) (fun v1071 hv1071 => ?_)
  refine wp1 (fun n d => r_aloadnX f333_1072 rfl) ?_
  refine wp1 (fun n d => r_iloadn f333_1073 rfl) ?_
  refine w_iconst f333_1074 (fun v1074 hv1074 => ?_)
  refine w_iadd f333_1075 (by omega) (by omega) (fun v1075 hv1075 => ?_)
  refine w_xld f333_1076 hX1 (by omega) (by omega) (fun v1076 hv1076 => ?_)
  obtain ⟨fs1005, c1005⟩ := hI_o I1001 (r := 72) (ci := 12) (by decide +kernel)
  refine wp_good (G 94 (by decide) cC94 rfl) (Y := zM250) (show zmt[250]? = some zM250 from rfl) I1001 (ρ := [0, v1071.toInt, v1076.toInt]) (dK_v (kV_of rfl ⟨⟨by decide, by decide⟩, iR v1071, iR v1076, trivial⟩)) (dL_of (l := [some (.ref 72), some (.int v1071), some (.int v1076), none]) ⟨lw_r (by decide), lw_i rfl, lw_i rfl, lw_0, trivial⟩) (fun n d v h' e => r_virt (as := [.int v1071, .int v1076]) (r := []) f333_1077 c1005 (show zmt[250]? = some zM250 from rfl) rfl rfl rfl rfl rfl rfl e) (by first | decide | (show 1 + 1 ≤ _; omega)) (fun v h1004 σ1004 I1004 G1004 P1004 => ?_)
  obtain ⟨v1077, vq1077⟩ : ∃ y : Int32, v = some (.int y) := by
    obtain ⟨P, hm, ρ', rh', kP, sP⟩ := P1004
    cases List.mem_singleton.mp hm
    cases v with
    | none => exact sP.elim
    | some v =>
      obtain ⟨⟨x, y, rfl, -, -⟩, -⟩ := sP
      exact ⟨x, rfl⟩
  subst vq1077
  show Wp _ _ _ _ 1080 [some (.retAddr 1), some (.ref 0), some (.ref 72), some (.int i)] [.int v1077] _
  obtain ⟨fs1006, c1006, df1006⟩ := dG_o I1001.1 G1004 c1003 (by decide)
  obtain ⟨fs1007, c1007, df1007⟩ := dG_o I1001.1 G1004 c1005 (by decide)
  have GG : dG ([(33, 1), (34, 0), (72, 54), (115, 0)] : List (Nat × Nat)) σ h σ1004 h1004 := (dG_trans (dG_sub (by decide) G1001) (dG_sub (by decide) G1004))
  refine wp1 (fun nn dd => r_pop f333_1080 rfl) ?_
  refine wp1 (fun nn dd => r_goto f333_1081) ?_
  exact kq _ _ I1004 ⟨JQ_dG J I GG (by decide), JRing_dG K.1 I GG (by decide), JBody_dG K.2.1 I GG (by decide), JShelf_dG K.2.2 I GG (by decide)⟩ GG.2.2
theorem lc_24 {X : aX} (G : hG X 302) (hX : X 0 = some (8, zab)) {L : Nat} {xs : Nat → Int32} (hX1 : X 1 = some (L, xs)) (hL : L ≤ 3072) {i : Int32} (i0 : 0 ≤ i.toInt) (i1 : i.toInt + 6 ≤ L) {Q : Option Value → aH → Prop} {σ : List Nat} {h : aH} (I : dI σ h) (J : JX h) (kq : ∀ (σ' : List Nat) (h' : aH), dI σ' h' → JX h' → dPh h' ≤ dPh h → Wp X 64 zM333 Q 2075 [some (.retAddr 1), some (.ref 0), some (.ref 72), some (.int i)] [] h') : Wp X 64 zM333 Q 1084 [some (.retAddr 1), some (.ref 0), some (.ref 72), some (.int i)] [] h := by
  obtain ⟨J, K⟩ := J
  refine wp1 (fun n d => r_aloadn f333_1084 rfl) ?_
  refine wp1 (fun n d => r_aloadnX f333_1085 rfl) ?_
  refine wp1 (fun n d => r_iloadn f333_1086 rfl) ?_
  refine w_iconst f333_1087 (fun v1087 hv1087 => ?_)
  refine w_iadd f333_1088 (by omega) (by omega) (fun v1088 hv1088 => ?_)
  refine w_xld f333_1089 hX1 (by omega) (by omega) (fun v1089 hv1089 => ?_)
  refine wp1 (fun n d => r_aloadnX f333_1090 rfl) ?_
  refine wp1 (fun n d => r_iloadn f333_1091 rfl) ?_
  refine w_iconst f333_1092 (fun v1092 hv1092 => ?_)
  refine w_iadd f333_1093 (by omega) (by omega) (fun v1093 hv1093 => ?_)
  refine w_xld f333_1094 hX1 (by omega) (by omega) (fun v1094 hv1094 => ?_)
  obtain ⟨fs1002, c1002⟩ := hI_o I (r := 0) (ci := 11) (by decide +kernel)
  refine wp_good (G 143 (by decide) cC143 rfl) (Y := zM168) (show zmt[168]? = some zM168 from rfl) I (ρ := [0, v1089.toInt, v1094.toInt]) (dK_v (kV_of rfl ⟨⟨by decide, by decide⟩, iR v1089, iR v1094, trivial⟩)) (dL_of (l := [some (.ref 0), some (.int v1089), some (.int v1094)]) ⟨lw_r (by decide), lw_i rfl, lw_i rfl, trivial⟩) (fun n d v h' e => r_virt (as := [.int v1089, .int v1094]) (r := []) f333_1095 c1002 (show zmt[168]? = some zM168 from rfl) rfl rfl rfl rfl rfl rfl e) (by first | decide | (show 61 + 1 ≤ _; omega)) (fun v h1001 σ1001 I1001 G1001 P1001 => ?_)
  obtain ⟨v1095, vq1095⟩ : ∃ y : Int32, v = some (.int y) := by
    obtain ⟨P, hm, ρ', rh', kP, sP⟩ := P1001
    cases List.mem_singleton.mp hm
    cases v with
    | none => exact sP.elim
    | some v =>
      obtain ⟨⟨x, y, rfl, -, -⟩, -⟩ := sP
      exact ⟨x, rfl⟩
  subst vq1095
  show Wp _ _ _ _ 1098 [some (.retAddr 1), some (.ref 0), some (.ref 72), some (.int i)] [.int v1095] _
  obtain ⟨fs1003, c1003, df1003⟩ := dG_o I.1 G1001 c1002 (by decide)
  refine wp1 (fun nn dd => r_pop f333_1098 rfl) ?_
  refine wp1 (fun n d => r_aloadn f333_1099 rfl) ?_
  refine wp1 (fun n d => r_aloadnX f333_1100 rfl) ?_
  refine wp1 (fun n d => r_iloadn f333_1101 rfl) ?_
  refine w_iconst f333_1102 (fun v1102 hv1102 => ?_)
  refine w_iadd f333_1103 (by omega) (by omega) (fun v1103 hv1103 => ?_)
  refine w_xld f333_1104 hX1 (by omega) (by omega) (fun v1104 hv1104 => ?_)
  refine wp1 (fun n d => r_aloadnX f333_1105 rfl) ?_
  refine wp1 (fun n d => r_iloadn f333_1106 rfl) ?_
  refine w_iconst f333_1107 (fun v1107 hv1107 => ?_)
  refine w_iadd f333_1108 (by omega) (by omega) (fun v1108 hv1108 => ?_)
  refine w_xld f333_1109 hX1 (by omega) (by omega) (fun v1109 hv1109 => ?_)
  obtain ⟨fs1005, c1005⟩ := hI_o I1001 (r := 72) (ci := 12) (by decide +kernel)
  refine wp_good (G 144 (by decide) cC144 rfl) (Y := zM264) (show zmt[264]? = some zM264 from rfl) I1001 (ρ := [0, v1104.toInt, v1109.toInt]) (dK_v (kV_of rfl ⟨⟨by decide, by decide⟩, iR v1104, iR v1109, trivial⟩)) (dL_of (l := [some (.ref 72), some (.int v1104), some (.int v1109)]) ⟨lw_r (by decide), lw_i rfl, lw_i rfl, trivial⟩) (fun n d v h' e => r_virt (as := [.int v1104, .int v1109]) (r := []) f333_1110 c1005 (show zmt[264]? = some zM264 from rfl) rfl rfl rfl rfl rfl rfl e) (by first | decide | (show 60 + 1 ≤ _; omega)) (fun v h1004 σ1004 I1004 G1004 P1004 => ?_)
  obtain ⟨v1110, vq1110⟩ : ∃ y : Int32, v = some (.int y) := by
    obtain ⟨P, hm, ρ', rh', kP, sP⟩ := P1004
    cases List.mem_singleton.mp hm
    cases v with
    | none => exact sP.elim
    | some v =>
      obtain ⟨⟨x, y, rfl, -, -⟩, -⟩ := sP
      exact ⟨x, rfl⟩
  subst vq1110
  show Wp _ _ _ _ 1113 [some (.retAddr 1), some (.ref 0), some (.ref 72), some (.int i)] [.int v1110] _
  obtain ⟨fs1006, c1006, df1006⟩ := dG_o I1001.1 G1004 c1003 (by decide)
  obtain ⟨fs1007, c1007, df1007⟩ := dG_o I1001.1 G1004 c1005 (by decide)
  have GG : dG ([(33, 1), (33, 7), (33, 9), (33, 10), (33, 11), (33, 12), (33, 13), (33, 14), (35, 0), (36, 0), (37, 0), (38, 0), (39, 0), (72, 54), (72, 55), (72, 64), (72, 65), (72, 66), (72, 67), (72, 68), (116, 0), (117, 0), (118, 0), (119, 0), (120, 0), (121, 0), (122, 0), (123, 0)] : List (Nat × Nat)) σ h σ1004 h1004 := (dG_trans (dG_sub (by decide) G1001) (dG_sub (by decide) G1004))
  refine wp1 (fun nn dd => r_pop f333_1113 rfl) ?_
  refine wp1 (fun nn dd => r_goto f333_1114) ?_
  exact kq _ _ I1004 ⟨JQ_dG J I GG (by decide), JRing_dG K.1 I GG (by decide), JBody_dG K.2.1 I GG (by decide), JShelf_dG K.2.2 I GG (by decide)⟩ GG.2.2
theorem lc_25 {X : aX} (G : hG X 302) (hX : X 0 = some (8, zab)) {L : Nat} {xs : Nat → Int32} (hX1 : X 1 = some (L, xs)) (hL : L ≤ 3072) {i : Int32} (i0 : 0 ≤ i.toInt) (i1 : i.toInt + 6 ≤ L) {Q : Option Value → aH → Prop} {σ : List Nat} {h : aH} (I : dI σ h) (J : JX h) (kq : ∀ (σ' : List Nat) (h' : aH), dI σ' h' → JX h' → dPh h' ≤ dPh h → Wp X 64 zM333 Q 2075 [some (.retAddr 1), some (.ref 0), some (.ref 72), some (.int i)] [] h') : Wp X 64 zM333 Q 1117 [some (.retAddr 1), some (.ref 0), some (.ref 72), some (.int i)] [] h := by
  obtain ⟨J, K⟩ := J
  refine wp1 (fun n d => r_aloadn f333_1117 rfl) ?_
  refine wp1 (fun n d => r_aloadnX f333_1118 rfl) ?_
  refine wp1 (fun n d => r_iloadn f333_1119 rfl) ?_
  refine w_iconst f333_1120 (fun v1120 hv1120 => ?_)
  refine w_iadd f333_1121 (by omega) (by omega) (fun v1121 hv1121 => ?_)
  refine w_xld f333_1122 hX1 (by omega) (by omega) (fun v1122 hv1122 => ?_)
  refine wp1 (fun n d => r_aloadnX f333_1123 rfl) ?_
  refine wp1 (fun n d => r_iloadn f333_1124 rfl) ?_
  refine w_iconst f333_1125 (fun v1125 hv1125 => ?_)
  refine w_iadd f333_1126 (by omega) (by omega) (fun v1126 hv1126 => ?_)
  refine w_xld f333_1127 hX1 (by omega) (by omega) (fun v1127 hv1127 => ?_)
  refine wp1 (fun n d => r_aloadnX f333_1128 rfl) ?_
  refine wp1 (fun n d => r_iloadn f333_1129 rfl) ?_
  refine w_iconst f333_1130 (fun v1130 hv1130 => ?_)
  refine w_iadd f333_1131 (by omega) (by omega) (fun v1131 hv1131 => ?_)
  refine w_xld f333_1132 hX1 (by omega) (by omega) (fun v1132 hv1132 => ?_)
  obtain ⟨fs1002, c1002⟩ := hI_o I (r := 0) (ci := 11) (by decide +kernel)
  refine wp_good (G 146 (by decide) cC146 rfl) (Y := zM169) (show zmt[169]? = some zM169 from rfl) I (ρ := [0, v1122.toInt, v1127.toInt, v1132.toInt]) (dK_v (kV_of rfl ⟨⟨by decide, by decide⟩, iR v1122, iR v1127, iR v1132, trivial⟩)) (dL_of (l := [some (.ref 0), some (.int v1122), some (.int v1127), some (.int v1132), none]) ⟨lw_r (by decide), lw_i rfl, lw_i rfl, lw_i rfl, lw_0, trivial⟩) (fun n d v h' e => r_virt (as := [.int v1122, .int v1127, .int v1132]) (r := []) f333_1133 c1002 (show zmt[169]? = some zM169 from rfl) rfl rfl rfl rfl rfl rfl e) (by first | decide | (show 3 + 1 ≤ _; omega)) (fun v h1001 σ1001 I1001 G1001 P1001 => ?_)
  obtain ⟨v1133, vq1133⟩ : ∃ y : Int32, v = some (.int y) := by
    obtain ⟨P, hm, ρ', rh', kP, sP⟩ := P1001
    cases List.mem_singleton.mp hm
    cases v with
    | none => exact sP.elim
    | some v =>
      obtain ⟨⟨x, y, rfl, -, -⟩, -⟩ := sP
      exact ⟨x, rfl⟩
  subst vq1133
  show Wp _ _ _ _ 1136 [some (.retAddr 1), some (.ref 0), some (.ref 72), some (.int i)] [.int v1133] _
  obtain ⟨fs1003, c1003, df1003⟩ := dG_o I.1 G1001 c1002 (by decide)
  refine wp1 (fun nn dd => r_pop f333_1136 rfl) ?_
  refine wp1 (fun n d => r_aloadn f333_1137 rfl) ?_
  refine wp1 (fun n d => r_aloadnX f333_1138 rfl) ?_
  refine wp1 (fun n d => r_iloadn f333_1139 rfl) ?_
  refine w_iconst f333_1140 (fun v1140 hv1140 => ?_)
  refine w_iadd f333_1141 (by omega) (by omega) (fun v1141 hv1141 => ?_)
  refine w_xld f333_1142 hX1 (by omega) (by omega) (fun v1142 hv1142 => ?_)
  refine wp1 (fun n d => r_aloadnX f333_1143 rfl) ?_
  refine wp1 (fun n d => r_iloadn f333_1144 rfl) ?_
  refine w_iconst f333_1145 (fun v1145 hv1145 => ?_)
  refine w_iadd f333_1146 (by omega) (by omega) (fun v1146 hv1146 => ?_)
  refine w_xld f333_1147 hX1 (by omega) (by omega) (fun v1147 hv1147 => ?_)
  refine wp1 (fun n d => r_aloadnX f333_1148 rfl) ?_
  refine wp1 (fun n d => r_iloadn f333_1149 rfl) ?_
  refine w_iconst f333_1150 (fun v1150 hv1150 => ?_)
  refine w_iadd f333_1151 (by omega) (by omega) (fun v1151 hv1151 => ?_)
  refine w_xld f333_1152 hX1 (by omega) (by omega) (fun v1152 hv1152 => ?_)
  obtain ⟨fs1005, c1005⟩ := hI_o I1001 (r := 72) (ci := 12) (by decide +kernel)
  refine wp_good (G 148 (by decide) cC148 rfl) (Y := zM266) (show zmt[266]? = some zM266 from rfl) I1001 (ρ := [0, v1142.toInt, v1147.toInt, v1152.toInt]) (dK_v (kV_of rfl ⟨⟨by decide, by decide⟩, iR v1142, iR v1147, iR v1152, trivial⟩)) (dL_of (l := [some (.ref 72), some (.int v1142), some (.int v1147), some (.int v1152)]) ⟨lw_r (by decide), lw_i rfl, lw_i rfl, lw_i rfl, trivial⟩) (fun n d v h' e => r_virt (as := [.int v1142, .int v1147, .int v1152]) (r := []) f333_1153 c1005 (show zmt[266]? = some zM266 from rfl) rfl rfl rfl rfl rfl rfl e) (by first | decide | (show 2 + 1 ≤ _; omega)) (fun v h1004 σ1004 I1004 G1004 P1004 => ?_)
  obtain ⟨v1153, vq1153⟩ : ∃ y : Int32, v = some (.int y) := by
    obtain ⟨P, hm, ρ', rh', kP, sP⟩ := P1004
    cases List.mem_singleton.mp hm
    cases v with
    | none => exact sP.elim
    | some v =>
      obtain ⟨⟨x, y, rfl, -, -⟩, -⟩ := sP
      exact ⟨x, rfl⟩
  subst vq1153
  show Wp _ _ _ _ 1156 [some (.retAddr 1), some (.ref 0), some (.ref 72), some (.int i)] [.int v1153] _
  obtain ⟨fs1006, c1006, df1006⟩ := dG_o I1001.1 G1004 c1003 (by decide)
  obtain ⟨fs1007, c1007, df1007⟩ := dG_o I1001.1 G1004 c1005 (by decide)
  have GG : dG ([] : List (Nat × Nat)) σ h σ1004 h1004 := (dG_trans (dG_sub (by decide) G1001) (dG_sub (by decide) G1004))
  refine wp1 (fun nn dd => r_pop f333_1156 rfl) ?_
  refine wp1 (fun nn dd => r_goto f333_1157) ?_
  exact kq _ _ I1004 ⟨JQ_dG J I GG (by decide), JRing_dG K.1 I GG (by decide), JBody_dG K.2.1 I GG (by decide), JShelf_dG K.2.2 I GG (by decide)⟩ GG.2.2
