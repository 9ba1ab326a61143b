set_option maxRecDepth 100000 in
theorem kV_RL_82 : CalV RL 82 yX11_batchIs cX11_batchIs 4 (some .int) 2 := ⟨⟨wk5_3 3 rfl rfl, wk5_3 4 rfl rfl, wk5_3 5 rfl rfl, wk1_0 1 rfl rfl, wk5_3 6 rfl rfl⟩, ⟨nmh_0.1, nmh_0.2, pd_17⟩⟩
set_option maxRecDepth 100000 in
theorem kV_RL_85 : CalV RL 85 yX12_batchIs cX12_batchIs 3 (some .int) 2 := ⟨⟨wk8_18 1 rfl rfl, wk8_18 2 rfl rfl, wk8_18 3 rfl rfl, wk1_1 1 rfl rfl, wk8_18 4 rfl rfl⟩, ⟨nmh_13.1, nmh_13.2, pd_17⟩⟩
set_option maxRecDepth 100000 in
theorem kV_RL_86 : CalV RL 86 yX11_blend cX11_blend 9 (some .int) 0 := ⟨⟨wk5_4 8 rfl rfl, wk5_4 9 rfl rfl, wk5_4 10 rfl rfl, wk1_0 1 rfl rfl, wk5_4 11 rfl rfl⟩, ⟨nmh_0.1, nmh_0.2, pd_1⟩⟩
set_option maxRecDepth 100000 in
theorem kV_RL_90 : CalV RL 90 yX12_blend cX12_blend 7 (some .int) 0 := ⟨⟨wk8_19 5 rfl rfl, wk8_19 6 rfl rfl, wk8_19 7 rfl rfl, wk1_1 1 rfl rfl, wk8_19 8 rfl rfl⟩, ⟨nmh_13.1, nmh_13.2, pd_1⟩⟩
set_option maxRecDepth 100000 in
theorem kV_RL_91 : CalV RL 91 yX11_proof cX11_proof 6 (some .int) 4 := ⟨⟨wk5_5 8 rfl rfl, wk5_5 9 rfl rfl, wk5_5 10 rfl rfl, wk1_0 1 rfl rfl, wk5_5 11 rfl rfl⟩, ⟨nmh_0.1, nmh_0.2, pd_27⟩⟩
set_option maxRecDepth 100000 in
theorem kV_RL_94 : CalV RL 94 yX12_proof cX12_proof 5 (some .int) 4 := ⟨⟨wk8_19 9 rfl rfl, wk8_19 10 rfl rfl, wk8_19 11 rfl rfl, wk1_1 1 rfl rfl, wk9_0 0 rfl rfl⟩, ⟨nmh_13.1, nmh_13.2, pd_27⟩⟩
set_option maxRecDepth 100000 in
theorem kV_RL_95 : CalV RL 95 yX11_twice cX11_twice 4 (some .int) 1 := ⟨⟨wk5_8 2 rfl rfl, wk5_8 3 rfl rfl, wk5_8 4 rfl rfl, wk1_0 1 rfl rfl, wk5_8 5 rfl rfl⟩, ⟨nmh_0.1, nmh_0.2, pd_8⟩⟩
set_option maxRecDepth 100000 in
theorem kV_RL_98 : CalV RL 98 yX12_twice cX12_twice 4 (some .int) 1 := ⟨⟨wk9_0 1 rfl rfl, wk9_0 2 rfl rfl, wk9_0 3 rfl rfl, wk1_1 1 rfl rfl, wk9_0 4 rfl rfl⟩, ⟨nmh_13.1, nmh_13.2, pd_8⟩⟩
set_option maxRecDepth 100000 in
theorem kV_RL_99 : CalV RL 99 yX11_bought cX11_bought 3 (some .int) 2 := ⟨⟨wk5_8 10 rfl rfl, wk5_8 11 rfl rfl, wk5_9 0 rfl rfl, wk1_0 1 rfl rfl, wk5_9 1 rfl rfl⟩, ⟨nmh_0.1, nmh_0.2, pd_17⟩⟩
set_option maxRecDepth 100000 in
theorem kV_RL_102 : CalV RL 102 yX12_bought cX12_bought 3 (some .int) 2 := ⟨⟨wk9_0 5 rfl rfl, wk9_0 6 rfl rfl, wk9_0 7 rfl rfl, wk1_1 1 rfl rfl, wk9_0 8 rfl rfl⟩, ⟨nmh_13.1, nmh_13.2, pd_17⟩⟩
set_option maxRecDepth 100000 in
theorem kV_RL_103 : CalV RL 103 yX11_offers cX11_offers 5 (some .boolean) 3 := ⟨⟨wk5_14 0 rfl rfl, wk5_14 1 rfl rfl, wk5_14 2 rfl rfl, wk1_0 1 rfl rfl, wk5_14 3 rfl rfl⟩, ⟨nmh_0.1, nmh_0.2, pd_26⟩⟩
set_option maxRecDepth 100000 in
theorem kV_RL_107 : CalV RL 107 yX12_offers cX12_offers 4 (some .boolean) 3 := ⟨⟨wk9_5 10 rfl rfl, wk9_5 11 rfl rfl, wk9_6 0 rfl rfl, wk1_1 1 rfl rfl, wk9_6 1 rfl rfl⟩, ⟨nmh_13.1, nmh_13.2, pd_26⟩⟩
set_option maxRecDepth 100000 in
theorem kV_RL_108 : CalV RL 108 yX11_worth cX11_worth 3 (some .int) 2 := ⟨⟨wk5_14 4 rfl rfl, wk5_14 5 rfl rfl, wk5_14 6 rfl rfl, wk1_0 1 rfl rfl, wk5_14 7 rfl rfl⟩, ⟨nmh_0.1, nmh_0.2, pd_17⟩⟩
set_option maxRecDepth 100000 in
theorem kV_RL_111 : CalV RL 111 yX12_worth cX12_worth 3 (some .int) 2 := ⟨⟨wk9_6 2 rfl rfl, wk9_6 3 rfl rfl, wk9_6 4 rfl rfl, wk1_1 1 rfl rfl, wk9_6 5 rfl rfl⟩, ⟨nmh_13.1, nmh_13.2, pd_17⟩⟩
set_option maxRecDepth 100000 in
theorem kV_RL_112 : CalV RL 112 yX11_offer cX11_offer 7 (some .int) 2 := ⟨⟨wk5_15 5 rfl rfl, wk5_15 6 rfl rfl, wk5_15 7 rfl rfl, wk1_0 1 rfl rfl, wk5_15 8 rfl rfl⟩, ⟨nmh_0.1, nmh_0.2, pd_17⟩⟩
set_option maxRecDepth 100000 in
theorem kV_RL_115 : CalV RL 115 yX12_offer cX12_offer 5 (some .int) 2 := ⟨⟨wk9_7 2 rfl rfl, wk9_7 3 rfl rfl, wk9_7 4 rfl rfl, wk1_1 1 rfl rfl, wk9_7 5 rfl rfl⟩, ⟨nmh_13.1, nmh_13.2, pd_17⟩⟩
set_option maxRecDepth 100000 in
theorem kV_RL_116 : CalV RL 116 yX11_thefts cX11_thefts 3 (some .boolean) 2 := ⟨⟨wk5_16 1 rfl rfl, wk5_16 2 rfl rfl, wk5_16 3 rfl rfl, wk1_0 1 rfl rfl, wk5_16 4 rfl rfl⟩, ⟨nmh_0.1, nmh_0.2, pd_21⟩⟩
set_option maxRecDepth 100000 in
theorem kV_RL_119 : CalV RL 119 yX12_thefts cX12_thefts 3 (some .boolean) 2 := ⟨⟨wk9_7 6 rfl rfl, wk9_7 7 rfl rfl, wk9_7 8 rfl rfl, wk1_1 1 rfl rfl, wk9_7 9 rfl rfl⟩, ⟨nmh_13.1, nmh_13.2, pd_21⟩⟩
set_option maxRecDepth 100000 in
theorem kV_RL_120 : CalV RL 120 yX11_lock cX11_lock 7 (some .int) 2 := ⟨⟨wk5_16 5 rfl rfl, wk5_16 6 rfl rfl, wk5_16 7 rfl rfl, wk1_0 1 rfl rfl, wk5_16 8 rfl rfl⟩, ⟨nmh_0.1, nmh_0.2, pd_17⟩⟩
set_option maxRecDepth 100000 in
theorem kV_RL_123 : CalV RL 123 yX12_lock cX12_lock 5 (some .int) 2 := ⟨⟨wk9_7 10 rfl rfl, wk9_7 11 rfl rfl, wk9_8 0 rfl rfl, wk1_1 1 rfl rfl, wk9_8 1 rfl rfl⟩, ⟨nmh_13.1, nmh_13.2, pd_17⟩⟩
set_option maxRecDepth 100000 in
theorem kV_RL_124 : CalV RL 124 yX11_sewer cX11_sewer 3 (some .int) 2 := ⟨⟨wk5_17 1 rfl rfl, wk5_17 2 rfl rfl, wk5_17 3 rfl rfl, wk1_0 1 rfl rfl, wk5_17 4 rfl rfl⟩, ⟨nmh_0.1, nmh_0.2, pd_17⟩⟩
set_option maxRecDepth 100000 in
theorem kV_RL_127 : CalV RL 127 yX12_sewer cX12_sewer 3 (some .int) 2 := ⟨⟨wk9_8 6 rfl rfl, wk9_8 7 rfl rfl, wk9_8 8 rfl rfl, wk1_1 1 rfl rfl, wk9_8 9 rfl rfl⟩, ⟨nmh_13.1, nmh_13.2, pd_17⟩⟩
set_option maxRecDepth 100000 in
theorem kV_RL_128 : CalV RL 128 yX11_blocked cX11_blocked 3 (some .int) 1 := ⟨⟨wk5_18 11 rfl rfl, wk5_19 0 rfl rfl, wk5_19 1 rfl rfl, wk1_0 1 rfl rfl, wk5_19 2 rfl rfl⟩, ⟨nmh_0.1, nmh_0.2, pd_8⟩⟩
set_option maxRecDepth 100000 in
theorem kV_RL_131 : CalV RL 131 yX12_blocked cX12_blocked 2 (some .int) 1 := ⟨⟨wk9_8 10 rfl rfl, wk9_8 11 rfl rfl, wk9_9 0 rfl rfl, wk1_1 1 rfl rfl, wk9_9 1 rfl rfl⟩, ⟨nmh_13.1, nmh_13.2, pd_8⟩⟩
set_option maxRecDepth 100000 in
theorem kV_RL_132 : CalV RL 132 yX11_beside cX11_beside 6 (some .int) 2 := ⟨⟨wk5_19 3 rfl rfl, wk5_19 4 rfl rfl, wk5_19 5 rfl rfl, wk1_0 1 rfl rfl, wk5_19 6 rfl rfl⟩, ⟨nmh_0.1, nmh_0.2, pd_17⟩⟩
set_option maxRecDepth 100000 in
theorem kV_RL_135 : CalV RL 135 yX12_beside cX12_beside 6 (some .int) 2 := ⟨⟨wk9_9 2 rfl rfl, wk9_9 3 rfl rfl, wk9_9 4 rfl rfl, wk1_1 1 rfl rfl, wk9_9 5 rfl rfl⟩, ⟨nmh_13.1, nmh_13.2, pd_17⟩⟩
set_option maxRecDepth 100000 in
theorem kV_RL_136 : CalV RL 136 yX11_degrees cX11_degrees 3 (some .boolean) 2 := ⟨⟨wk5_19 11 rfl rfl, wk6_0 0 rfl rfl, wk6_0 1 rfl rfl, wk1_0 1 rfl rfl, wk6_0 2 rfl rfl⟩, ⟨nmh_0.1, nmh_0.2, pd_21⟩⟩
set_option maxRecDepth 100000 in
theorem kV_RL_139 : CalV RL 139 yX12_degrees cX12_degrees 3 (some .boolean) 2 := ⟨⟨wk9_9 6 rfl rfl, wk9_9 7 rfl rfl, wk9_9 8 rfl rfl, wk1_1 1 rfl rfl, wk9_9 9 rfl rfl⟩, ⟨nmh_13.1, nmh_13.2, pd_21⟩⟩
set_option maxRecDepth 100000 in
theorem kV_RL_140 : CalV RL 140 yX11_late cX11_late 6 (some .int) 2 := ⟨⟨wk6_0 3 rfl rfl, wk6_0 4 rfl rfl, wk6_0 5 rfl rfl, wk1_0 1 rfl rfl, wk6_0 6 rfl rfl⟩, ⟨nmh_0.1, nmh_0.2, pd_17⟩⟩
set_option maxRecDepth 100000 in
theorem kV_RL_143 : CalV RL 143 yX12_late cX12_late 5 (some .int) 2 := ⟨⟨wk9_9 10 rfl rfl, wk9_9 11 rfl rfl, wk9_10 0 rfl rfl, wk1_1 1 rfl rfl, wk9_10 1 rfl rfl⟩, ⟨nmh_13.1, nmh_13.2, pd_17⟩⟩
theorem dL_law_821 : decode code 821 = .ok (.aload_n 1, 1) := oc_43 shL_law_821
theorem dL_law_822 : decode code 822 = .ok (.aload_n 0, 1) := oc_42 shL_law_822
theorem dL_law_823 : decode code 823 = .ok (.iload_n 3, 1) := oc_29 shL_law_823
theorem dL_law_824 : decode code 824 = .ok (.iconst 1, 1) := oc_4 shL_law_824
theorem dL_law_825 : decode code 825 = .ok (.iadd, 1) := oc_96 shL_law_825
theorem dL_law_826 : decode code 826 = .ok (.iaload, 1) := oc_46 shL_law_826
theorem dL_law_827 : decode code 827 = .ok (.aload_n 0, 1) := oc_42 shL_law_827
theorem dL_law_828 : decode code 828 = .ok (.iload_n 3, 1) := oc_29 shL_law_828
theorem dL_law_829 : decode code 829 = .ok (.iconst 2, 1) := oc_5 shL_law_829
theorem dL_law_830 : decode code 830 = .ok (.iadd, 1) := oc_96 shL_law_830
theorem dL_law_831 : decode code 831 = .ok (.iaload, 1) := oc_46 shL_law_831
theorem dL_law_832 : decode code 832 = .ok (.invokevirtual 82, 3) := oc_182 shL_law_832
theorem dL_law_835 : decode code 835 = .ok (.pop, 1) := oc_87 shL_law_835
theorem dL_law_836 : decode code 836 = .ok (.aload_n 2, 1) := oc_44 shL_law_836
theorem dL_law_837 : decode code 837 = .ok (.aload_n 0, 1) := oc_42 shL_law_837
theorem dL_law_838 : decode code 838 = .ok (.iload_n 3, 1) := oc_29 shL_law_838
theorem dL_law_839 : decode code 839 = .ok (.iconst 1, 1) := oc_4 shL_law_839
theorem dL_law_840 : decode code 840 = .ok (.iadd, 1) := oc_96 shL_law_840
theorem dL_law_841 : decode code 841 = .ok (.iaload, 1) := oc_46 shL_law_841
theorem dL_law_842 : decode code 842 = .ok (.aload_n 0, 1) := oc_42 shL_law_842
theorem dL_law_843 : decode code 843 = .ok (.iload_n 3, 1) := oc_29 shL_law_843
theorem dL_law_844 : decode code 844 = .ok (.iconst 2, 1) := oc_5 shL_law_844
theorem dL_law_845 : decode code 845 = .ok (.iadd, 1) := oc_96 shL_law_845
theorem dL_law_846 : decode code 846 = .ok (.iaload, 1) := oc_46 shL_law_846
theorem dL_law_847 : decode code 847 = .ok (.invokevirtual 85, 3) := oc_182 shL_law_847
theorem dL_law_850 : decode code 850 = .ok (.pop, 1) := oc_87 shL_law_850
theorem dL_law_851 : decode code 851 = .ok (.goto 1418, 3) := oc_167 shL_law_851 sgw_5_138
theorem dL_law_854 : decode code 854 = .ok (.aload_n 1, 1) := oc_43 shL_law_854
theorem dL_law_855 : decode code 855 = .ok (.invokevirtual 86, 3) := oc_182 shL_law_855
theorem dL_law_858 : decode code 858 = .ok (.pop, 1) := oc_87 shL_law_858
theorem dL_law_859 : decode code 859 = .ok (.aload_n 2, 1) := oc_44 shL_law_859
theorem dL_law_860 : decode code 860 = .ok (.invokevirtual 90, 3) := oc_182 shL_law_860
theorem dL_law_863 : decode code 863 = .ok (.pop, 1) := oc_87 shL_law_863
theorem dL_law_864 : decode code 864 = .ok (.goto 1405, 3) := oc_167 shL_law_864 sgw_5_125
theorem dL_law_867 : decode code 867 = .ok (.aload_n 1, 1) := oc_43 shL_law_867
theorem dL_law_868 : decode code 868 = .ok (.aload_n 0, 1) := oc_42 shL_law_868
theorem dL_law_869 : decode code 869 = .ok (.iload_n 3, 1) := oc_29 shL_law_869
theorem dL_law_870 : decode code 870 = .ok (.iconst 1, 1) := oc_4 shL_law_870
theorem dL_law_871 : decode code 871 = .ok (.iadd, 1) := oc_96 shL_law_871
theorem dL_law_872 : decode code 872 = .ok (.iaload, 1) := oc_46 shL_law_872
theorem dL_law_873 : decode code 873 = .ok (.aload_n 0, 1) := oc_42 shL_law_873
theorem dL_law_874 : decode code 874 = .ok (.iload_n 3, 1) := oc_29 shL_law_874
theorem dL_law_875 : decode code 875 = .ok (.iconst 2, 1) := oc_5 shL_law_875
theorem dL_law_876 : decode code 876 = .ok (.iadd, 1) := oc_96 shL_law_876
theorem dL_law_877 : decode code 877 = .ok (.iaload, 1) := oc_46 shL_law_877
theorem dL_law_878 : decode code 878 = .ok (.aload_n 0, 1) := oc_42 shL_law_878
theorem dL_law_879 : decode code 879 = .ok (.iload_n 3, 1) := oc_29 shL_law_879
theorem dL_law_880 : decode code 880 = .ok (.iconst 3, 1) := oc_6 shL_law_880
theorem dL_law_881 : decode code 881 = .ok (.iadd, 1) := oc_96 shL_law_881
theorem dL_law_882 : decode code 882 = .ok (.iaload, 1) := oc_46 shL_law_882
theorem dL_law_883 : decode code 883 = .ok (.aload_n 0, 1) := oc_42 shL_law_883
theorem dL_law_884 : decode code 884 = .ok (.iload_n 3, 1) := oc_29 shL_law_884
theorem dL_law_885 : decode code 885 = .ok (.iconst 4, 1) := oc_7 shL_law_885
theorem dL_law_886 : decode code 886 = .ok (.iadd, 1) := oc_96 shL_law_886
theorem dL_law_887 : decode code 887 = .ok (.iaload, 1) := oc_46 shL_law_887
theorem dL_law_888 : decode code 888 = .ok (.invokevirtual 91, 3) := oc_182 shL_law_888
theorem dL_law_891 : decode code 891 = .ok (.pop, 1) := oc_87 shL_law_891
theorem dL_law_892 : decode code 892 = .ok (.aload_n 2, 1) := oc_44 shL_law_892
theorem dL_law_893 : decode code 893 = .ok (.aload_n 0, 1) := oc_42 shL_law_893
theorem dL_law_894 : decode code 894 = .ok (.iload_n 3, 1) := oc_29 shL_law_894
theorem dL_law_895 : decode code 895 = .ok (.iconst 1, 1) := oc_4 shL_law_895
theorem dL_law_896 : decode code 896 = .ok (.iadd, 1) := oc_96 shL_law_896
theorem dL_law_897 : decode code 897 = .ok (.iaload, 1) := oc_46 shL_law_897
theorem dL_law_898 : decode code 898 = .ok (.aload_n 0, 1) := oc_42 shL_law_898
theorem dL_law_899 : decode code 899 = .ok (.iload_n 3, 1) := oc_29 shL_law_899
theorem dL_law_900 : decode code 900 = .ok (.iconst 2, 1) := oc_5 shL_law_900
theorem dL_law_901 : decode code 901 = .ok (.iadd, 1) := oc_96 shL_law_901
theorem dL_law_902 : decode code 902 = .ok (.iaload, 1) := oc_46 shL_law_902
theorem dL_law_903 : decode code 903 = .ok (.aload_n 0, 1) := oc_42 shL_law_903
theorem dL_law_904 : decode code 904 = .ok (.iload_n 3, 1) := oc_29 shL_law_904
theorem dL_law_905 : decode code 905 = .ok (.iconst 3, 1) := oc_6 shL_law_905
theorem dL_law_906 : decode code 906 = .ok (.iadd, 1) := oc_96 shL_law_906
theorem dL_law_907 : decode code 907 = .ok (.iaload, 1) := oc_46 shL_law_907
theorem dL_law_908 : decode code 908 = .ok (.aload_n 0, 1) := oc_42 shL_law_908
theorem dL_law_909 : decode code 909 = .ok (.iload_n 3, 1) := oc_29 shL_law_909
theorem dL_law_910 : decode code 910 = .ok (.iconst 4, 1) := oc_7 shL_law_910
theorem dL_law_911 : decode code 911 = .ok (.iadd, 1) := oc_96 shL_law_911
theorem dL_law_912 : decode code 912 = .ok (.iaload, 1) := oc_46 shL_law_912
theorem dL_law_913 : decode code 913 = .ok (.invokevirtual 94, 3) := oc_182 shL_law_913
theorem dL_law_916 : decode code 916 = .ok (.pop, 1) := oc_87 shL_law_916
theorem dL_law_917 : decode code 917 = .ok (.goto 1352, 3) := oc_167 shL_law_917 sgw_5_72
theorem dL_law_920 : decode code 920 = .ok (.aload_n 1, 1) := oc_43 shL_law_920
theorem dL_law_921 : decode code 921 = .ok (.aload_n 0, 1) := oc_42 shL_law_921
theorem dL_law_922 : decode code 922 = .ok (.iload_n 3, 1) := oc_29 shL_law_922
theorem dL_law_923 : decode code 923 = .ok (.iconst 1, 1) := oc_4 shL_law_923
theorem dL_law_924 : decode code 924 = .ok (.iadd, 1) := oc_96 shL_law_924
theorem dL_law_925 : decode code 925 = .ok (.iaload, 1) := oc_46 shL_law_925
theorem dL_law_926 : decode code 926 = .ok (.invokevirtual 95, 3) := oc_182 shL_law_926
theorem dL_law_929 : decode code 929 = .ok (.pop, 1) := oc_87 shL_law_929
theorem dL_law_930 : decode code 930 = .ok (.aload_n 2, 1) := oc_44 shL_law_930
theorem dL_law_931 : decode code 931 = .ok (.aload_n 0, 1) := oc_42 shL_law_931
theorem dL_law_932 : decode code 932 = .ok (.iload_n 3, 1) := oc_29 shL_law_932
theorem dL_law_933 : decode code 933 = .ok (.iconst 1, 1) := oc_4 shL_law_933
theorem dL_law_934 : decode code 934 = .ok (.iadd, 1) := oc_96 shL_law_934
theorem dL_law_935 : decode code 935 = .ok (.iaload, 1) := oc_46 shL_law_935
theorem dL_law_936 : decode code 936 = .ok (.invokevirtual 98, 3) := oc_182 shL_law_936
theorem dL_law_939 : decode code 939 = .ok (.pop, 1) := oc_87 shL_law_939
theorem dL_law_940 : decode code 940 = .ok (.goto 1329, 3) := oc_167 shL_law_940 sgw_5_49
theorem dL_law_943 : decode code 943 = .ok (.aload_n 1, 1) := oc_43 shL_law_943
theorem dL_law_944 : decode code 944 = .ok (.aload_n 0, 1) := oc_42 shL_law_944
theorem dL_law_945 : decode code 945 = .ok (.iload_n 3, 1) := oc_29 shL_law_945
theorem dL_law_946 : decode code 946 = .ok (.iconst 1, 1) := oc_4 shL_law_946
theorem dL_law_947 : decode code 947 = .ok (.iadd, 1) := oc_96 shL_law_947
theorem dL_law_948 : decode code 948 = .ok (.iaload, 1) := oc_46 shL_law_948
theorem dL_law_949 : decode code 949 = .ok (.aload_n 0, 1) := oc_42 shL_law_949
theorem dL_law_950 : decode code 950 = .ok (.iload_n 3, 1) := oc_29 shL_law_950
theorem dL_law_951 : decode code 951 = .ok (.iconst 2, 1) := oc_5 shL_law_951
theorem dL_law_952 : decode code 952 = .ok (.iadd, 1) := oc_96 shL_law_952
theorem dL_law_953 : decode code 953 = .ok (.iaload, 1) := oc_46 shL_law_953
theorem dL_law_954 : decode code 954 = .ok (.invokevirtual 99, 3) := oc_182 shL_law_954
theorem dL_law_957 : decode code 957 = .ok (.pop, 1) := oc_87 shL_law_957
theorem dL_law_958 : decode code 958 = .ok (.aload_n 2, 1) := oc_44 shL_law_958
theorem dL_law_959 : decode code 959 = .ok (.aload_n 0, 1) := oc_42 shL_law_959
theorem dL_law_960 : decode code 960 = .ok (.iload_n 3, 1) := oc_29 shL_law_960
theorem dL_law_961 : decode code 961 = .ok (.iconst 1, 1) := oc_4 shL_law_961
theorem dL_law_962 : decode code 962 = .ok (.iadd, 1) := oc_96 shL_law_962
theorem dL_law_963 : decode code 963 = .ok (.iaload, 1) := oc_46 shL_law_963
theorem dL_law_964 : decode code 964 = .ok (.aload_n 0, 1) := oc_42 shL_law_964
theorem dL_law_965 : decode code 965 = .ok (.iload_n 3, 1) := oc_29 shL_law_965
theorem dL_law_966 : decode code 966 = .ok (.iconst 2, 1) := oc_5 shL_law_966
theorem dL_law_967 : decode code 967 = .ok (.iadd, 1) := oc_96 shL_law_967
theorem dL_law_968 : decode code 968 = .ok (.iaload, 1) := oc_46 shL_law_968
theorem dL_law_969 : decode code 969 = .ok (.invokevirtual 102, 3) := oc_182 shL_law_969
theorem dL_law_972 : decode code 972 = .ok (.pop, 1) := oc_87 shL_law_972
theorem dL_law_973 : decode code 973 = .ok (.goto 1296, 3) := oc_167 shL_law_973 sgw_5_16
theorem dL_law_976 : decode code 976 = .ok (.aload_n 1, 1) := oc_43 shL_law_976
theorem dL_law_977 : decode code 977 = .ok (.aload_n 0, 1) := oc_42 shL_law_977
theorem dL_law_978 : decode code 978 = .ok (.iload_n 3, 1) := oc_29 shL_law_978
theorem dL_law_979 : decode code 979 = .ok (.iconst 1, 1) := oc_4 shL_law_979
theorem dL_law_980 : decode code 980 = .ok (.iadd, 1) := oc_96 shL_law_980
theorem dL_law_981 : decode code 981 = .ok (.iaload, 1) := oc_46 shL_law_981
theorem dL_law_982 : decode code 982 = .ok (.aload_n 0, 1) := oc_42 shL_law_982
theorem dL_law_983 : decode code 983 = .ok (.iload_n 3, 1) := oc_29 shL_law_983
theorem dL_law_984 : decode code 984 = .ok (.iconst 2, 1) := oc_5 shL_law_984
theorem dL_law_985 : decode code 985 = .ok (.iadd, 1) := oc_96 shL_law_985
theorem dL_law_986 : decode code 986 = .ok (.iaload, 1) := oc_46 shL_law_986
theorem dL_law_987 : decode code 987 = .ok (.aload_n 0, 1) := oc_42 shL_law_987
theorem dL_law_988 : decode code 988 = .ok (.iload_n 3, 1) := oc_29 shL_law_988
theorem dL_law_989 : decode code 989 = .ok (.iconst 3, 1) := oc_6 shL_law_989
theorem dL_law_990 : decode code 990 = .ok (.iadd, 1) := oc_96 shL_law_990
theorem dL_law_991 : decode code 991 = .ok (.iaload, 1) := oc_46 shL_law_991
theorem dL_law_992 : decode code 992 = .ok (.invokevirtual 103, 3) := oc_182 shL_law_992
theorem dL_law_995 : decode code 995 = .ok (.pop, 1) := oc_87 shL_law_995
theorem dL_law_996 : decode code 996 = .ok (.aload_n 2, 1) := oc_44 shL_law_996
theorem dL_law_997 : decode code 997 = .ok (.aload_n 0, 1) := oc_42 shL_law_997
theorem dL_law_998 : decode code 998 = .ok (.iload_n 3, 1) := oc_29 shL_law_998
theorem dL_law_999 : decode code 999 = .ok (.iconst 1, 1) := oc_4 shL_law_999
theorem dL_law_1000 : decode code 1000 = .ok (.iadd, 1) := oc_96 shL_law_1000
theorem dL_law_1001 : decode code 1001 = .ok (.iaload, 1) := oc_46 shL_law_1001
theorem dL_law_1002 : decode code 1002 = .ok (.aload_n 0, 1) := oc_42 shL_law_1002
theorem dL_law_1003 : decode code 1003 = .ok (.iload_n 3, 1) := oc_29 shL_law_1003
theorem dL_law_1004 : decode code 1004 = .ok (.iconst 2, 1) := oc_5 shL_law_1004
theorem dL_law_1005 : decode code 1005 = .ok (.iadd, 1) := oc_96 shL_law_1005
theorem dL_law_1006 : decode code 1006 = .ok (.iaload, 1) := oc_46 shL_law_1006
theorem dL_law_1007 : decode code 1007 = .ok (.aload_n 0, 1) := oc_42 shL_law_1007
theorem dL_law_1008 : decode code 1008 = .ok (.iload_n 3, 1) := oc_29 shL_law_1008
theorem dL_law_1009 : decode code 1009 = .ok (.iconst 3, 1) := oc_6 shL_law_1009
theorem dL_law_1010 : decode code 1010 = .ok (.iadd, 1) := oc_96 shL_law_1010
theorem dL_law_1011 : decode code 1011 = .ok (.iaload, 1) := oc_46 shL_law_1011
theorem dL_law_1012 : decode code 1012 = .ok (.invokevirtual 107, 3) := oc_182 shL_law_1012
theorem dL_law_1015 : decode code 1015 = .ok (.pop, 1) := oc_87 shL_law_1015
theorem dL_law_1016 : decode code 1016 = .ok (.goto 1253, 3) := oc_167 shL_law_1016 sgw_4_229
theorem dL_law_1019 : decode code 1019 = .ok (.aload_n 1, 1) := oc_43 shL_law_1019
theorem dL_law_1020 : decode code 1020 = .ok (.aload_n 0, 1) := oc_42 shL_law_1020
theorem dL_law_1021 : decode code 1021 = .ok (.iload_n 3, 1) := oc_29 shL_law_1021
theorem dL_law_1022 : decode code 1022 = .ok (.iconst 1, 1) := oc_4 shL_law_1022
theorem dL_law_1023 : decode code 1023 = .ok (.iadd, 1) := oc_96 shL_law_1023
theorem dL_law_1024 : decode code 1024 = .ok (.iaload, 1) := oc_46 shL_law_1024
theorem dL_law_1025 : decode code 1025 = .ok (.aload_n 0, 1) := oc_42 shL_law_1025
theorem dL_law_1026 : decode code 1026 = .ok (.iload_n 3, 1) := oc_29 shL_law_1026
theorem dL_law_1027 : decode code 1027 = .ok (.iconst 2, 1) := oc_5 shL_law_1027
theorem dL_law_1028 : decode code 1028 = .ok (.iadd, 1) := oc_96 shL_law_1028
theorem dL_law_1029 : decode code 1029 = .ok (.iaload, 1) := oc_46 shL_law_1029
theorem dL_law_1030 : decode code 1030 = .ok (.invokevirtual 108, 3) := oc_182 shL_law_1030
theorem dL_law_1033 : decode code 1033 = .ok (.pop, 1) := oc_87 shL_law_1033
theorem dL_law_1034 : decode code 1034 = .ok (.aload_n 2, 1) := oc_44 shL_law_1034
theorem dL_law_1035 : decode code 1035 = .ok (.aload_n 0, 1) := oc_42 shL_law_1035
theorem dL_law_1036 : decode code 1036 = .ok (.iload_n 3, 1) := oc_29 shL_law_1036
theorem dL_law_1037 : decode code 1037 = .ok (.iconst 1, 1) := oc_4 shL_law_1037
theorem dL_law_1038 : decode code 1038 = .ok (.iadd, 1) := oc_96 shL_law_1038
theorem dL_law_1039 : decode code 1039 = .ok (.iaload, 1) := oc_46 shL_law_1039
theorem dL_law_1040 : decode code 1040 = .ok (.aload_n 0, 1) := oc_42 shL_law_1040
theorem dL_law_1041 : decode code 1041 = .ok (.iload_n 3, 1) := oc_29 shL_law_1041
theorem dL_law_1042 : decode code 1042 = .ok (.iconst 2, 1) := oc_5 shL_law_1042
theorem dL_law_1043 : decode code 1043 = .ok (.iadd, 1) := oc_96 shL_law_1043
theorem dL_law_1044 : decode code 1044 = .ok (.iaload, 1) := oc_46 shL_law_1044
theorem dL_law_1045 : decode code 1045 = .ok (.invokevirtual 111, 3) := oc_182 shL_law_1045
theorem dL_law_1048 : decode code 1048 = .ok (.pop, 1) := oc_87 shL_law_1048
theorem dL_law_1049 : decode code 1049 = .ok (.goto 1220, 3) := oc_167 shL_law_1049 sgw_4_196
theorem dL_law_1052 : decode code 1052 = .ok (.aload_n 1, 1) := oc_43 shL_law_1052
theorem dL_law_1053 : decode code 1053 = .ok (.aload_n 0, 1) := oc_42 shL_law_1053
theorem dL_law_1054 : decode code 1054 = .ok (.iload_n 3, 1) := oc_29 shL_law_1054
theorem dL_law_1055 : decode code 1055 = .ok (.iconst 1, 1) := oc_4 shL_law_1055
theorem dL_law_1056 : decode code 1056 = .ok (.iadd, 1) := oc_96 shL_law_1056
theorem dL_law_1057 : decode code 1057 = .ok (.iaload, 1) := oc_46 shL_law_1057
theorem dL_law_1058 : decode code 1058 = .ok (.aload_n 0, 1) := oc_42 shL_law_1058
theorem dL_law_1059 : decode code 1059 = .ok (.iload_n 3, 1) := oc_29 shL_law_1059
theorem dL_law_1060 : decode code 1060 = .ok (.iconst 2, 1) := oc_5 shL_law_1060
theorem dL_law_1061 : decode code 1061 = .ok (.iadd, 1) := oc_96 shL_law_1061
theorem dL_law_1062 : decode code 1062 = .ok (.iaload, 1) := oc_46 shL_law_1062
theorem dL_law_1063 : decode code 1063 = .ok (.invokevirtual 112, 3) := oc_182 shL_law_1063
theorem dL_law_1066 : decode code 1066 = .ok (.pop, 1) := oc_87 shL_law_1066
theorem dL_law_1067 : decode code 1067 = .ok (.aload_n 2, 1) := oc_44 shL_law_1067
theorem dL_law_1068 : decode code 1068 = .ok (.aload_n 0, 1) := oc_42 shL_law_1068
theorem dL_law_1069 : decode code 1069 = .ok (.iload_n 3, 1) := oc_29 shL_law_1069
theorem dL_law_1070 : decode code 1070 = .ok (.iconst 1, 1) := oc_4 shL_law_1070
theorem dL_law_1071 : decode code 1071 = .ok (.iadd, 1) := oc_96 shL_law_1071
theorem dL_law_1072 : decode code 1072 = .ok (.iaload, 1) := oc_46 shL_law_1072
theorem dL_law_1073 : decode code 1073 = .ok (.aload_n 0, 1) := oc_42 shL_law_1073
theorem dL_law_1074 : decode code 1074 = .ok (.iload_n 3, 1) := oc_29 shL_law_1074
theorem dL_law_1075 : decode code 1075 = .ok (.iconst 2, 1) := oc_5 shL_law_1075
theorem dL_law_1076 : decode code 1076 = .ok (.iadd, 1) := oc_96 shL_law_1076
theorem dL_law_1077 : decode code 1077 = .ok (.iaload, 1) := oc_46 shL_law_1077
theorem dL_law_1078 : decode code 1078 = .ok (.invokevirtual 115, 3) := oc_182 shL_law_1078
theorem dL_law_1081 : decode code 1081 = .ok (.pop, 1) := oc_87 shL_law_1081
theorem dL_law_1082 : decode code 1082 = .ok (.goto 1187, 3) := oc_167 shL_law_1082 sgw_4_163
theorem dL_law_1085 : decode code 1085 = .ok (.aload_n 1, 1) := oc_43 shL_law_1085
theorem dL_law_1086 : decode code 1086 = .ok (.aload_n 0, 1) := oc_42 shL_law_1086
theorem dL_law_1087 : decode code 1087 = .ok (.iload_n 3, 1) := oc_29 shL_law_1087
theorem dL_law_1088 : decode code 1088 = .ok (.iconst 1, 1) := oc_4 shL_law_1088
theorem dL_law_1089 : decode code 1089 = .ok (.iadd, 1) := oc_96 shL_law_1089
theorem dL_law_1090 : decode code 1090 = .ok (.iaload, 1) := oc_46 shL_law_1090
theorem dL_law_1091 : decode code 1091 = .ok (.aload_n 0, 1) := oc_42 shL_law_1091
theorem dL_law_1092 : decode code 1092 = .ok (.iload_n 3, 1) := oc_29 shL_law_1092
theorem dL_law_1093 : decode code 1093 = .ok (.iconst 2, 1) := oc_5 shL_law_1093
theorem dL_law_1094 : decode code 1094 = .ok (.iadd, 1) := oc_96 shL_law_1094
theorem dL_law_1095 : decode code 1095 = .ok (.iaload, 1) := oc_46 shL_law_1095
theorem dL_law_1096 : decode code 1096 = .ok (.invokevirtual 116, 3) := oc_182 shL_law_1096
theorem dL_law_1099 : decode code 1099 = .ok (.pop, 1) := oc_87 shL_law_1099
theorem dL_law_1100 : decode code 1100 = .ok (.aload_n 2, 1) := oc_44 shL_law_1100
theorem dL_law_1101 : decode code 1101 = .ok (.aload_n 0, 1) := oc_42 shL_law_1101
theorem dL_law_1102 : decode code 1102 = .ok (.iload_n 3, 1) := oc_29 shL_law_1102
theorem dL_law_1103 : decode code 1103 = .ok (.iconst 1, 1) := oc_4 shL_law_1103
theorem dL_law_1104 : decode code 1104 = .ok (.iadd, 1) := oc_96 shL_law_1104
theorem dL_law_1105 : decode code 1105 = .ok (.iaload, 1) := oc_46 shL_law_1105
theorem dL_law_1106 : decode code 1106 = .ok (.aload_n 0, 1) := oc_42 shL_law_1106
theorem dL_law_1107 : decode code 1107 = .ok (.iload_n 3, 1) := oc_29 shL_law_1107
theorem dL_law_1108 : decode code 1108 = .ok (.iconst 2, 1) := oc_5 shL_law_1108
theorem dL_law_1109 : decode code 1109 = .ok (.iadd, 1) := oc_96 shL_law_1109
theorem dL_law_1110 : decode code 1110 = .ok (.iaload, 1) := oc_46 shL_law_1110
theorem dL_law_1111 : decode code 1111 = .ok (.invokevirtual 119, 3) := oc_182 shL_law_1111
theorem dL_law_1114 : decode code 1114 = .ok (.pop, 1) := oc_87 shL_law_1114
theorem dL_law_1115 : decode code 1115 = .ok (.goto 1154, 3) := oc_167 shL_law_1115 sgw_4_130
theorem dL_law_1118 : decode code 1118 = .ok (.aload_n 1, 1) := oc_43 shL_law_1118
theorem dL_law_1119 : decode code 1119 = .ok (.aload_n 0, 1) := oc_42 shL_law_1119
theorem dL_law_1120 : decode code 1120 = .ok (.iload_n 3, 1) := oc_29 shL_law_1120
theorem dL_law_1121 : decode code 1121 = .ok (.iconst 1, 1) := oc_4 shL_law_1121
theorem dL_law_1122 : decode code 1122 = .ok (.iadd, 1) := oc_96 shL_law_1122
theorem dL_law_1123 : decode code 1123 = .ok (.iaload, 1) := oc_46 shL_law_1123
theorem dL_law_1124 : decode code 1124 = .ok (.aload_n 0, 1) := oc_42 shL_law_1124
theorem dL_law_1125 : decode code 1125 = .ok (.iload_n 3, 1) := oc_29 shL_law_1125
theorem dL_law_1126 : decode code 1126 = .ok (.iconst 2, 1) := oc_5 shL_law_1126
theorem dL_law_1127 : decode code 1127 = .ok (.iadd, 1) := oc_96 shL_law_1127
theorem dL_law_1128 : decode code 1128 = .ok (.iaload, 1) := oc_46 shL_law_1128
theorem dL_law_1129 : decode code 1129 = .ok (.invokevirtual 120, 3) := oc_182 shL_law_1129
theorem dL_law_1132 : decode code 1132 = .ok (.pop, 1) := oc_87 shL_law_1132
theorem dL_law_1133 : decode code 1133 = .ok (.aload_n 2, 1) := oc_44 shL_law_1133
theorem dL_law_1134 : decode code 1134 = .ok (.aload_n 0, 1) := oc_42 shL_law_1134
theorem dL_law_1135 : decode code 1135 = .ok (.iload_n 3, 1) := oc_29 shL_law_1135
theorem dL_law_1136 : decode code 1136 = .ok (.iconst 1, 1) := oc_4 shL_law_1136
theorem dL_law_1137 : decode code 1137 = .ok (.iadd, 1) := oc_96 shL_law_1137
theorem dL_law_1138 : decode code 1138 = .ok (.iaload, 1) := oc_46 shL_law_1138
theorem dL_law_1139 : decode code 1139 = .ok (.aload_n 0, 1) := oc_42 shL_law_1139
theorem dL_law_1140 : decode code 1140 = .ok (.iload_n 3, 1) := oc_29 shL_law_1140
theorem dL_law_1141 : decode code 1141 = .ok (.iconst 2, 1) := oc_5 shL_law_1141
theorem dL_law_1142 : decode code 1142 = .ok (.iadd, 1) := oc_96 shL_law_1142
theorem dL_law_1143 : decode code 1143 = .ok (.iaload, 1) := oc_46 shL_law_1143
theorem dL_law_1144 : decode code 1144 = .ok (.invokevirtual 123, 3) := oc_182 shL_law_1144
theorem dL_law_1147 : decode code 1147 = .ok (.pop, 1) := oc_87 shL_law_1147
theorem dL_law_1148 : decode code 1148 = .ok (.goto 1121, 3) := oc_167 shL_law_1148 sgw_4_97
theorem dL_law_1151 : decode code 1151 = .ok (.aload_n 1, 1) := oc_43 shL_law_1151
theorem dL_law_1152 : decode code 1152 = .ok (.aload_n 0, 1) := oc_42 shL_law_1152
theorem dL_law_1153 : decode code 1153 = .ok (.iload_n 3, 1) := oc_29 shL_law_1153
theorem dL_law_1154 : decode code 1154 = .ok (.iconst 1, 1) := oc_4 shL_law_1154
theorem dL_law_1155 : decode code 1155 = .ok (.iadd, 1) := oc_96 shL_law_1155
theorem dL_law_1156 : decode code 1156 = .ok (.iaload, 1) := oc_46 shL_law_1156
theorem dL_law_1157 : decode code 1157 = .ok (.aload_n 0, 1) := oc_42 shL_law_1157
theorem dL_law_1158 : decode code 1158 = .ok (.iload_n 3, 1) := oc_29 shL_law_1158
theorem dL_law_1159 : decode code 1159 = .ok (.iconst 2, 1) := oc_5 shL_law_1159
theorem dL_law_1160 : decode code 1160 = .ok (.iadd, 1) := oc_96 shL_law_1160
theorem dL_law_1161 : decode code 1161 = .ok (.iaload, 1) := oc_46 shL_law_1161
theorem dL_law_1162 : decode code 1162 = .ok (.invokevirtual 124, 3) := oc_182 shL_law_1162
theorem dL_law_1165 : decode code 1165 = .ok (.pop, 1) := oc_87 shL_law_1165
theorem dL_law_1166 : decode code 1166 = .ok (.aload_n 2, 1) := oc_44 shL_law_1166
theorem dL_law_1167 : decode code 1167 = .ok (.aload_n 0, 1) := oc_42 shL_law_1167
theorem dL_law_1168 : decode code 1168 = .ok (.iload_n 3, 1) := oc_29 shL_law_1168
theorem dL_law_1169 : decode code 1169 = .ok (.iconst 1, 1) := oc_4 shL_law_1169
theorem dL_law_1170 : decode code 1170 = .ok (.iadd, 1) := oc_96 shL_law_1170
theorem dL_law_1171 : decode code 1171 = .ok (.iaload, 1) := oc_46 shL_law_1171
theorem dL_law_1172 : decode code 1172 = .ok (.aload_n 0, 1) := oc_42 shL_law_1172
theorem dL_law_1173 : decode code 1173 = .ok (.iload_n 3, 1) := oc_29 shL_law_1173
theorem dL_law_1174 : decode code 1174 = .ok (.iconst 2, 1) := oc_5 shL_law_1174
theorem dL_law_1175 : decode code 1175 = .ok (.iadd, 1) := oc_96 shL_law_1175
theorem dL_law_1176 : decode code 1176 = .ok (.iaload, 1) := oc_46 shL_law_1176
theorem dL_law_1177 : decode code 1177 = .ok (.invokevirtual 127, 3) := oc_182 shL_law_1177
theorem dL_law_1180 : decode code 1180 = .ok (.pop, 1) := oc_87 shL_law_1180
theorem dL_law_1181 : decode code 1181 = .ok (.goto 1088, 3) := oc_167 shL_law_1181 sgw_4_64
theorem dL_law_1184 : decode code 1184 = .ok (.aload_n 1, 1) := oc_43 shL_law_1184
theorem dL_law_1185 : decode code 1185 = .ok (.aload_n 0, 1) := oc_42 shL_law_1185
theorem dL_law_1186 : decode code 1186 = .ok (.iload_n 3, 1) := oc_29 shL_law_1186
theorem dL_law_1187 : decode code 1187 = .ok (.iconst 1, 1) := oc_4 shL_law_1187
theorem dL_law_1188 : decode code 1188 = .ok (.iadd, 1) := oc_96 shL_law_1188
theorem dL_law_1189 : decode code 1189 = .ok (.iaload, 1) := oc_46 shL_law_1189
theorem dL_law_1190 : decode code 1190 = .ok (.invokevirtual 128, 3) := oc_182 shL_law_1190
theorem dL_law_1193 : decode code 1193 = .ok (.pop, 1) := oc_87 shL_law_1193
theorem dL_law_1194 : decode code 1194 = .ok (.aload_n 2, 1) := oc_44 shL_law_1194
theorem dL_law_1195 : decode code 1195 = .ok (.aload_n 0, 1) := oc_42 shL_law_1195
theorem dL_law_1196 : decode code 1196 = .ok (.iload_n 3, 1) := oc_29 shL_law_1196
theorem dL_law_1197 : decode code 1197 = .ok (.iconst 1, 1) := oc_4 shL_law_1197
theorem dL_law_1198 : decode code 1198 = .ok (.iadd, 1) := oc_96 shL_law_1198
theorem dL_law_1199 : decode code 1199 = .ok (.iaload, 1) := oc_46 shL_law_1199
theorem dL_law_1200 : decode code 1200 = .ok (.invokevirtual 131, 3) := oc_182 shL_law_1200
theorem dL_law_1203 : decode code 1203 = .ok (.pop, 1) := oc_87 shL_law_1203
theorem dL_law_1204 : decode code 1204 = .ok (.goto 1065, 3) := oc_167 shL_law_1204 sgw_4_41
theorem dL_law_1207 : decode code 1207 = .ok (.aload_n 1, 1) := oc_43 shL_law_1207
theorem dL_law_1208 : decode code 1208 = .ok (.aload_n 0, 1) := oc_42 shL_law_1208
theorem dL_law_1209 : decode code 1209 = .ok (.iload_n 3, 1) := oc_29 shL_law_1209
theorem dL_law_1210 : decode code 1210 = .ok (.iconst 1, 1) := oc_4 shL_law_1210
theorem dL_law_1211 : decode code 1211 = .ok (.iadd, 1) := oc_96 shL_law_1211
theorem dL_law_1212 : decode code 1212 = .ok (.iaload, 1) := oc_46 shL_law_1212
theorem dL_law_1213 : decode code 1213 = .ok (.aload_n 0, 1) := oc_42 shL_law_1213
theorem dL_law_1214 : decode code 1214 = .ok (.iload_n 3, 1) := oc_29 shL_law_1214
theorem dL_law_1215 : decode code 1215 = .ok (.iconst 2, 1) := oc_5 shL_law_1215
theorem dL_law_1216 : decode code 1216 = .ok (.iadd, 1) := oc_96 shL_law_1216
theorem dL_law_1217 : decode code 1217 = .ok (.iaload, 1) := oc_46 shL_law_1217
theorem dL_law_1218 : decode code 1218 = .ok (.invokevirtual 132, 3) := oc_182 shL_law_1218
theorem dL_law_1221 : decode code 1221 = .ok (.pop, 1) := oc_87 shL_law_1221
theorem dL_law_1222 : decode code 1222 = .ok (.aload_n 2, 1) := oc_44 shL_law_1222
theorem dL_law_1223 : decode code 1223 = .ok (.aload_n 0, 1) := oc_42 shL_law_1223
theorem dL_law_1224 : decode code 1224 = .ok (.iload_n 3, 1) := oc_29 shL_law_1224
theorem dL_law_1225 : decode code 1225 = .ok (.iconst 1, 1) := oc_4 shL_law_1225
theorem dL_law_1226 : decode code 1226 = .ok (.iadd, 1) := oc_96 shL_law_1226
theorem dL_law_1227 : decode code 1227 = .ok (.iaload, 1) := oc_46 shL_law_1227
theorem dL_law_1228 : decode code 1228 = .ok (.aload_n 0, 1) := oc_42 shL_law_1228
theorem dL_law_1229 : decode code 1229 = .ok (.iload_n 3, 1) := oc_29 shL_law_1229
theorem dL_law_1230 : decode code 1230 = .ok (.iconst 2, 1) := oc_5 shL_law_1230
theorem dL_law_1231 : decode code 1231 = .ok (.iadd, 1) := oc_96 shL_law_1231
theorem dL_law_1232 : decode code 1232 = .ok (.iaload, 1) := oc_46 shL_law_1232
theorem dL_law_1233 : decode code 1233 = .ok (.invokevirtual 135, 3) := oc_182 shL_law_1233
theorem dL_law_1236 : decode code 1236 = .ok (.pop, 1) := oc_87 shL_law_1236
theorem dL_law_1237 : decode code 1237 = .ok (.goto 1032, 3) := oc_167 shL_law_1237 sgw_4_8
theorem dL_law_1240 : decode code 1240 = .ok (.aload_n 1, 1) := oc_43 shL_law_1240
theorem dL_law_1241 : decode code 1241 = .ok (.aload_n 0, 1) := oc_42 shL_law_1241
theorem dL_law_1242 : decode code 1242 = .ok (.iload_n 3, 1) := oc_29 shL_law_1242
theorem dL_law_1243 : decode code 1243 = .ok (.iconst 1, 1) := oc_4 shL_law_1243
theorem dL_law_1244 : decode code 1244 = .ok (.iadd, 1) := oc_96 shL_law_1244
theorem dL_law_1245 : decode code 1245 = .ok (.iaload, 1) := oc_46 shL_law_1245
theorem dL_law_1246 : decode code 1246 = .ok (.aload_n 0, 1) := oc_42 shL_law_1246
theorem dL_law_1247 : decode code 1247 = .ok (.iload_n 3, 1) := oc_29 shL_law_1247
theorem dL_law_1248 : decode code 1248 = .ok (.iconst 2, 1) := oc_5 shL_law_1248
theorem dL_law_1249 : decode code 1249 = .ok (.iadd, 1) := oc_96 shL_law_1249
theorem dL_law_1250 : decode code 1250 = .ok (.iaload, 1) := oc_46 shL_law_1250
theorem dL_law_1251 : decode code 1251 = .ok (.invokevirtual 136, 3) := oc_182 shL_law_1251
theorem dL_law_1254 : decode code 1254 = .ok (.pop, 1) := oc_87 shL_law_1254
theorem dL_law_1255 : decode code 1255 = .ok (.aload_n 2, 1) := oc_44 shL_law_1255
theorem dL_law_1256 : decode code 1256 = .ok (.aload_n 0, 1) := oc_42 shL_law_1256
theorem dL_law_1257 : decode code 1257 = .ok (.iload_n 3, 1) := oc_29 shL_law_1257
theorem dL_law_1258 : decode code 1258 = .ok (.iconst 1, 1) := oc_4 shL_law_1258
theorem dL_law_1259 : decode code 1259 = .ok (.iadd, 1) := oc_96 shL_law_1259
theorem dL_law_1260 : decode code 1260 = .ok (.iaload, 1) := oc_46 shL_law_1260
theorem dL_law_1261 : decode code 1261 = .ok (.aload_n 0, 1) := oc_42 shL_law_1261
theorem dL_law_1262 : decode code 1262 = .ok (.iload_n 3, 1) := oc_29 shL_law_1262
theorem dL_law_1263 : decode code 1263 = .ok (.iconst 2, 1) := oc_5 shL_law_1263
theorem dL_law_1264 : decode code 1264 = .ok (.iadd, 1) := oc_96 shL_law_1264
theorem dL_law_1265 : decode code 1265 = .ok (.iaload, 1) := oc_46 shL_law_1265
theorem dL_law_1266 : decode code 1266 = .ok (.invokevirtual 139, 3) := oc_182 shL_law_1266
theorem dL_law_1269 : decode code 1269 = .ok (.pop, 1) := oc_87 shL_law_1269
theorem dL_law_1270 : decode code 1270 = .ok (.goto 999, 3) := oc_167 shL_law_1270 sgw_3_231
theorem dL_law_1273 : decode code 1273 = .ok (.aload_n 1, 1) := oc_43 shL_law_1273
theorem dL_law_1274 : decode code 1274 = .ok (.aload_n 0, 1) := oc_42 shL_law_1274
theorem dL_law_1275 : decode code 1275 = .ok (.iload_n 3, 1) := oc_29 shL_law_1275
theorem dL_law_1276 : decode code 1276 = .ok (.iconst 1, 1) := oc_4 shL_law_1276
theorem dL_law_1277 : decode code 1277 = .ok (.iadd, 1) := oc_96 shL_law_1277
theorem dL_law_1278 : decode code 1278 = .ok (.iaload, 1) := oc_46 shL_law_1278
theorem dL_law_1279 : decode code 1279 = .ok (.aload_n 0, 1) := oc_42 shL_law_1279
theorem dL_law_1280 : decode code 1280 = .ok (.iload_n 3, 1) := oc_29 shL_law_1280
theorem dL_law_1281 : decode code 1281 = .ok (.iconst 2, 1) := oc_5 shL_law_1281
theorem dL_law_1282 : decode code 1282 = .ok (.iadd, 1) := oc_96 shL_law_1282
theorem dL_law_1283 : decode code 1283 = .ok (.iaload, 1) := oc_46 shL_law_1283
theorem dL_law_1284 : decode code 1284 = .ok (.invokevirtual 140, 3) := oc_182 shL_law_1284
theorem dL_law_1287 : decode code 1287 = .ok (.pop, 1) := oc_87 shL_law_1287
theorem dL_law_1288 : decode code 1288 = .ok (.aload_n 2, 1) := oc_44 shL_law_1288
theorem dL_law_1289 : decode code 1289 = .ok (.aload_n 0, 1) := oc_42 shL_law_1289
theorem dL_law_1290 : decode code 1290 = .ok (.iload_n 3, 1) := oc_29 shL_law_1290
theorem dL_law_1291 : decode code 1291 = .ok (.iconst 1, 1) := oc_4 shL_law_1291
theorem dL_law_1292 : decode code 1292 = .ok (.iadd, 1) := oc_96 shL_law_1292
theorem dL_law_1293 : decode code 1293 = .ok (.iaload, 1) := oc_46 shL_law_1293
theorem dL_law_1294 : decode code 1294 = .ok (.aload_n 0, 1) := oc_42 shL_law_1294
theorem dL_law_1295 : decode code 1295 = .ok (.iload_n 3, 1) := oc_29 shL_law_1295
theorem dL_law_1296 : decode code 1296 = .ok (.iconst 2, 1) := oc_5 shL_law_1296
theorem dL_law_1297 : decode code 1297 = .ok (.iadd, 1) := oc_96 shL_law_1297
theorem dL_law_1298 : decode code 1298 = .ok (.iaload, 1) := oc_46 shL_law_1298
theorem dL_law_1299 : decode code 1299 = .ok (.invokevirtual 143, 3) := oc_182 shL_law_1299
theorem dL_law_1302 : decode code 1302 = .ok (.pop, 1) := oc_87 shL_law_1302
theorem dL_law_1303 : decode code 1303 = .ok (.goto 966, 3) := oc_167 shL_law_1303 sgw_3_198
set_option maxRecDepth 100000 in
set_option maxHeartbeats 4000000 in
theorem lawc_15 {p : Program} {l : Launch} {e : Env} {s : State} {m : MethodId} {below : List Frame} {meth : Method} {c : Code} {b L : Nat} {xs : Nat → Int32} (C0 : lw_At p s m meth c b L xs) (hLN : L ≤ 3584) {A : Nat → Prop} (hA : ∀ q : Nat, s.heap.size ≤ q → A q) (hbA : ¬ A b) {D : va_G} {cI cB cZ : ClassId} {zz qq vv : Nat} {bt : Nat → Int32} {g g2 : Nat → Nat} (hK : KK D cI cB cZ s) (hXS : XS D zz qq vv bt A s s.heap) {ad : Nat → Nat → Nat} {cn : Nat → Nat} {In : Nat → Int32} {Fn : Nat → Nat → Int32} {c3 : Nat → Nat} {I3 : Nat → Int32} {F3 : Nat → Nat → Int32} (hI : IX ad cn Fn) (hM : IMM c3 F3) (hR : RR cn Fn c3 F3) {H : Heap} {locs : List Loc} (hP : va_P D vwCl (wX cI (D.1 99) zz g ad cn In Fn ++ wM cI cB cZ g2 c3 I3 F3) H) (hD : va_D A (wX cI (D.1 99) zz g ad cn In Fn ++ wM cI cB cZ g2 c3 I3 F3)) (hS : va_S A s.heap H locs) {K N i : Nat} (hi : i + 7 ≤ L) (hKN : K + 8 ≤ 600000 ∧ N + 240 ≤ 7302250) {ls : Array Slot} (hl : lv_has ls 4 [(0, .ref b), (1, .ref (g 0)), (2, .ref (g2 100)), (3, .int (nI i))]) (kk : ∀ (ad : Nat → Nat → Nat) (cn : Nat → Nat) (In : Nat → Int32) (Fn : Nat → Nat → Int32) (c3 : Nat → Nat) (I3 : Nat → Int32) (F3 : Nat → Nat → Int32) (H : Heap) (locs : List Loc), IX ad cn Fn → IMM c3 F3 → RR cn Fn c3 F3 → va_P D vwCl (wX cI (D.1 99) zz g ad cn In Fn ++ wM cI cB cZ g2 c3 I3 F3) H → va_D A (wX cI (D.1 99) zz g ad cn In Fn ++ wM cI cB cZ g2 c3 I3 F3) → va_S A s.heap H locs → ∀ ls : Array Slot, lv_has ls 4 [(0, .ref b), (1, .ref (g 0)), (2, .ref (g2 100)), (3, .int (nI i))] → W p l e room_1 s m #[Value.ref b] below meth c H locs (K + 8) (N + 240) (lw_Z below #[Value.ref b] s) (F0 m 2269 ls [])) : W p l e room_1 s m #[Value.ref b] below meth c H locs K N (lw_Z below #[Value.ref b] s) (F0 m 821 ls []) := by
  obtain ⟨hx, hb, hr, hml, hown, hts, hX, hbl, hlocks, hgv⟩ := id C0
  have S : SF p m c code 4 s #[Value.ref b] RL := ⟨hx, hb, hml, hown, fun w h => hts w (wT_lw h)⟩
  refine lv_aload_n hx hb dL_law_821 rfl (lvA1 hl) ?_
  refine lv_aload_n hx hb dL_law_822 rfl (lvA0 hl) ?_
  refine lv_iload_n hx hb dL_law_823 rfl (lvA3 hl) ?_
  refine lv_iconst (v := 1) hx hb dL_law_824 kic_1 ?_
  refine lv_iadd hx hb dL_law_825 ?_
  refine lv_topi (fun y_1 ey_1 => ?_)
  obtain rfl : y_1 = nI (i + 1) := ey_1.trans (nI_add i 1)
  refine va_sld hx hb hX hbl hbA hS (vp_in_nI (by omega) (by omega)) dL_law_826 ?_
  refine lv_topi (fun y_2 ey_2 => ?_)
  obtain rfl : y_2 = xs (nI (i + 1)).toNatClampNeg := ey_2
  refine lv_aload_n hx hb dL_law_827 rfl (lvA0 hl) ?_
  refine lv_iload_n hx hb dL_law_828 rfl (lvA3 hl) ?_
  refine lv_iconst (v := 2) hx hb dL_law_829 kic_2 ?_
  refine lv_iadd hx hb dL_law_830 ?_
  refine lv_topi (fun y_3 ey_3 => ?_)
  obtain rfl : y_3 = nI (i + 2) := ey_3.trans (nI_add i 2)
  refine va_sld hx hb hX hbl hbA hS (vp_in_nI (by omega) (by omega)) dL_law_831 ?_
  refine lv_topi (fun y_4 ey_4 => ?_)
  obtain rfl : y_4 = xs (nI (i + 2)).toNatClampNeg := ey_4
  refine vp_callSi (runV_rxa (As := [.int (xs (nI (i + 1)).toNatClampNeg), .int (xs (nI (i + 2)).toNatClampNeg)]) (rest := []) S (q_XbatchIs l D cI cB cZ zz qq vv bt g ad cn In Fn (xs (nI (i + 1)).toNatClampNeg) (xs (nI (i + 2)).toNatClampNeg) hI.1) kV_RL_82 hK hXS hS (exP hP) 0 xo_0 rfl rfl ⟨Nat.le_of_ble_eq_true rfl, Nat.le_of_ble_eq_true rfl⟩ ⟨(by show K + 0 ≤ 600000; omega), (by show N + 0 ≤ 7302250; omega)⟩ rfl hl.1 rfl (Nat.le_of_ble_eq_true rfl) dL_law_832) (fun r4 w4 => ?_)
  refine lv_pop hx hb dL_law_835 rfl ?_
  refine lv_aload_n hx hb dL_law_836 rfl (lvA2 hl) ?_
  refine lv_aload_n hx hb dL_law_837 rfl (lvA0 hl) ?_
  refine lv_iload_n hx hb dL_law_838 rfl (lvA3 hl) ?_
  refine lv_iconst (v := 1) hx hb dL_law_839 kic_1 ?_
  refine lv_iadd hx hb dL_law_840 ?_
  refine lv_topi (fun y_6 ey_6 => ?_)
  obtain rfl : y_6 = nI (i + 1) := ey_6.trans (nI_add i 1)
  refine va_sld hx hb hX hbl hbA hS (vp_in_nI (by omega) (by omega)) dL_law_841 ?_
  refine lv_topi (fun y_7 ey_7 => ?_)
  obtain rfl : y_7 = xs (nI (i + 1)).toNatClampNeg := ey_7
  refine lv_aload_n hx hb dL_law_842 rfl (lvA0 hl) ?_
  refine lv_iload_n hx hb dL_law_843 rfl (lvA3 hl) ?_
  refine lv_iconst (v := 2) hx hb dL_law_844 kic_2 ?_
  refine lv_iadd hx hb dL_law_845 ?_
  refine lv_topi (fun y_8 ey_8 => ?_)
  obtain rfl : y_8 = nI (i + 2) := ey_8.trans (nI_add i 2)
  refine va_sld hx hb hX hbl hbA hS (vp_in_nI (by omega) (by omega)) dL_law_846 ?_
  refine lv_topi (fun y_9 ey_9 => ?_)
  obtain rfl : y_9 = xs (nI (i + 2)).toNatClampNeg := ey_9
  have hFc := free_all (exDr hD) hS hA
  refine va_calli (runV_a (As := [.int (xs (nI (i + 1)).toNatClampNeg), .int (xs (nI (i + 2)).toNatClampNeg)]) (rest := []) S (q_batchIs l D cI cB cZ g2 c3 I3 F3 (xs (nI (i + 1)).toNatClampNeg) (xs (nI (i + 2)).toNatClampNeg) H.size hM.1) kV_RL_85 hK (exPr hP) (exDr hD) 0 rfl rfl rfl ⟨Nat.le_of_ble_eq_true rfl, Nat.le_of_ble_eq_true rfl⟩ ⟨(by show K + 0 ≤ 600000; omega), (by show N + 0 ≤ 7302250; omega)⟩ rfl hl.1 rfl (Nat.le_of_ble_eq_true rfl) dL_law_847) hS (fun q _ h => hFc q h) hFc (fun r9 u t H1 locs ht hvm w9 hB1 hz1 hk1 hS => ?_)
  obtain ⟨c9, I9, F9⟩ := u
  obtain ⟨hP1, hD1⟩ := hB1
  rw [ht] at hP1
  obtain ⟨hP, hD⟩ := exjoin hP hD hk1 hFc hP1 hD1
  generalize H1 = H at hP hS ⊢
  obtain ⟨hM, hd9, hf9⟩ := imm_batchIs hM w9
  have hR := RR.fm hR hd9 hf9 (by decide) (by decide)
  refine lv_pop hx hb dL_law_850 rfl ?_
  refine lv_goto (tgt := 2269) hx hb dL_law_851 rfl ?_
  refine W.widen (k := K + 8) (n := N + 240) (by omega) (by omega) ?_
  exact kk _ _ _ _ _ _ _ _ _ hI hM hR hP hD hS ls hl
set_option maxRecDepth 100000 in
set_option maxHeartbeats 4000000 in
theorem lawc_16 {p : Program} {l : Launch} {e : Env} {s : State} {m : MethodId} {below : List Frame} {meth : Method} {c : Code} {b L : Nat} {xs : Nat → Int32} (C0 : lw_At p s m meth c b L xs) (hLN : L ≤ 3584) {A : Nat → Prop} (hA : ∀ q : Nat, s.heap.size ≤ q → A q) (hbA : ¬ A b) {D : va_G} {cI cB cZ : ClassId} {zz qq vv : Nat} {bt : Nat → Int32} {g g2 : Nat → Nat} (hK : KK D cI cB cZ s) (hXS : XS D zz qq vv bt A s s.heap) {ad : Nat → Nat → Nat} {cn : Nat → Nat} {In : Nat → Int32} {Fn : Nat → Nat → Int32} {c3 : Nat → Nat} {I3 : Nat → Int32} {F3 : Nat → Nat → Int32} (hI : IX ad cn Fn) (hM : IMM c3 F3) (hR : RR cn Fn c3 F3) {H : Heap} {locs : List Loc} (hP : va_P D vwCl (wX cI (D.1 99) zz g ad cn In Fn ++ wM cI cB cZ g2 c3 I3 F3) H) (hD : va_D A (wX cI (D.1 99) zz g ad cn In Fn ++ wM cI cB cZ g2 c3 I3 F3)) (hS : va_S A s.heap H locs) {K N i : Nat} (hi : i + 7 ≤ L) (hKN : K + 8 ≤ 600000 ∧ N + 240 ≤ 7302250) {ls : Array Slot} (hl : lv_has ls 4 [(0, .ref b), (1, .ref (g 0)), (2, .ref (g2 100)), (3, .int (nI i))]) (kk : ∀ (ad : Nat → Nat → Nat) (cn : Nat → Nat) (In : Nat → Int32) (Fn : Nat → Nat → Int32) (c3 : Nat → Nat) (I3 : Nat → Int32) (F3 : Nat → Nat → Int32) (H : Heap) (locs : List Loc), IX ad cn Fn → IMM c3 F3 → RR cn Fn c3 F3 → va_P D vwCl (wX cI (D.1 99) zz g ad cn In Fn ++ wM cI cB cZ g2 c3 I3 F3) H → va_D A (wX cI (D.1 99) zz g ad cn In Fn ++ wM cI cB cZ g2 c3 I3 F3) → va_S A s.heap H locs → ∀ ls : Array Slot, lv_has ls 4 [(0, .ref b), (1, .ref (g 0)), (2, .ref (g2 100)), (3, .int (nI i))] → W p l e room_1 s m #[Value.ref b] below meth c H locs (K + 8) (N + 240) (lw_Z below #[Value.ref b] s) (F0 m 2269 ls [])) : W p l e room_1 s m #[Value.ref b] below meth c H locs K N (lw_Z below #[Value.ref b] s) (F0 m 854 ls []) := by
  obtain ⟨hx, hb, hr, hml, hown, hts, hX, hbl, hlocks, hgv⟩ := id C0
  have S : SF p m c code 4 s #[Value.ref b] RL := ⟨hx, hb, hml, hown, fun w h => hts w (wT_lw h)⟩
  refine lv_aload_n hx hb dL_law_854 rfl (lvA1 hl) ?_
  have hFc := free_all (exD hD) hS hA
  refine va_calli (runV_xa (As := []) (rest := []) S (q_Xblend l D cI cB cZ zz qq vv bt g ad cn In Fn  H.size hI.1 hI.2.1 hI.2.2.1) kV_RL_86 hK hXS hS hFc (exP hP) (exD hD) 0 xo_0 rfl rfl ⟨Nat.le_of_ble_eq_true rfl, Nat.le_of_ble_eq_true rfl⟩ ⟨(by show K + 3 ≤ 600000; omega), (by show N + 32 ≤ 7302250; omega)⟩ rfl hl.1 rfl (Nat.le_of_ble_eq_true rfl) dL_law_855) hS (fun q _ h => hFc q h) hFc (fun r0 u t H1 locs ht hvm w0 hB1 hz1 hk1 hS => ?_)
  obtain ⟨a0, c0, I0, F0⟩ := u
  obtain ⟨hP1, hD1⟩ := hB1
  rw [ht] at hP1
  obtain ⟨hP, hD⟩ := exjoinL hP hD hk1 hFc hP1 hD1
  generalize H1 = H at hP hS ⊢
  obtain ⟨hI, hd0, hf0⟩ := ix_blend hI w0
  have hR := RR.fx hR hd0 hf0 (by decide) (by decide)
  refine lv_pop hx hb dL_law_858 rfl ?_
  refine lv_aload_n hx hb dL_law_859 rfl (lvA2 hl) ?_
  have hFc := free_all (exDr hD) hS hA
  refine va_calli (runV_a (As := []) (rest := []) S (q_blend l D cI cB cZ g2 c3 I3 F3  H.size hM.1) kV_RL_90 hK (exPr hP) (exDr hD) 0 rfl rfl rfl ⟨Nat.le_of_ble_eq_true rfl, Nat.le_of_ble_eq_true rfl⟩ ⟨(by show K + 3 + 0 ≤ 600000; omega), (by show N + 32 + 0 ≤ 7302250; omega)⟩ rfl hl.1 rfl (Nat.le_of_ble_eq_true rfl) dL_law_860) hS (fun q _ h => hFc q h) hFc (fun r1 u t H1 locs ht hvm w1 hB1 hz1 hk1 hS => ?_)
  obtain ⟨c1, I1, F1⟩ := u
  obtain ⟨hP1, hD1⟩ := hB1
  rw [ht] at hP1
  obtain ⟨hP, hD⟩ := exjoin hP hD hk1 hFc hP1 hD1
  generalize H1 = H at hP hS ⊢
  obtain ⟨hM, hd1, hf1⟩ := imm_blend hM w1
  have hR := RR.fm hR hd1 hf1 (by decide) (by decide)
  refine lv_pop hx hb dL_law_863 rfl ?_
  refine lv_goto (tgt := 2269) hx hb dL_law_864 rfl ?_
  refine W.widen (k := K + 8) (n := N + 240) (by omega) (by omega) ?_
  exact kk _ _ _ _ _ _ _ _ _ hI hM hR hP hD hS ls hl
set_option maxRecDepth 100000 in
set_option maxHeartbeats 4000000 in
theorem lawc_17 {p : Program} {l : Launch} {e : Env} {s : State} {m : MethodId} {below : List Frame} {meth : Method} {c : Code} {b L : Nat} {xs : Nat → Int32} (C0 : lw_At p s m meth c b L xs) (hLN : L ≤ 3584) {A : Nat → Prop} (hA : ∀ q : Nat, s.heap.size ≤ q → A q) (hbA : ¬ A b) {D : va_G} {cI cB cZ : ClassId} {zz qq vv : Nat} {bt : Nat → Int32} {g g2 : Nat → Nat} (hK : KK D cI cB cZ s) (hXS : XS D zz qq vv bt A s s.heap) {ad : Nat → Nat → Nat} {cn : Nat → Nat} {In : Nat → Int32} {Fn : Nat → Nat → Int32} {c3 : Nat → Nat} {I3 : Nat → Int32} {F3 : Nat → Nat → Int32} (hI : IX ad cn Fn) (hM : IMM c3 F3) (hR : RR cn Fn c3 F3) {H : Heap} {locs : List Loc} (hP : va_P D vwCl (wX cI (D.1 99) zz g ad cn In Fn ++ wM cI cB cZ g2 c3 I3 F3) H) (hD : va_D A (wX cI (D.1 99) zz g ad cn In Fn ++ wM cI cB cZ g2 c3 I3 F3)) (hS : va_S A s.heap H locs) {K N i : Nat} (hi : i + 7 ≤ L) (hKN : K + 8 ≤ 600000 ∧ N + 240 ≤ 7302250) {ls : Array Slot} (hl : lv_has ls 4 [(0, .ref b), (1, .ref (g 0)), (2, .ref (g2 100)), (3, .int (nI i))]) (kk : ∀ (ad : Nat → Nat → Nat) (cn : Nat → Nat) (In : Nat → Int32) (Fn : Nat → Nat → Int32) (c3 : Nat → Nat) (I3 : Nat → Int32) (F3 : Nat → Nat → Int32) (H : Heap) (locs : List Loc), IX ad cn Fn → IMM c3 F3 → RR cn Fn c3 F3 → va_P D vwCl (wX cI (D.1 99) zz g ad cn In Fn ++ wM cI cB cZ g2 c3 I3 F3) H → va_D A (wX cI (D.1 99) zz g ad cn In Fn ++ wM cI cB cZ g2 c3 I3 F3) → va_S A s.heap H locs → ∀ ls : Array Slot, lv_has ls 4 [(0, .ref b), (1, .ref (g 0)), (2, .ref (g2 100)), (3, .int (nI i))] → W p l e room_1 s m #[Value.ref b] below meth c H locs (K + 8) (N + 240) (lw_Z below #[Value.ref b] s) (F0 m 2269 ls [])) : W p l e room_1 s m #[Value.ref b] below meth c H locs K N (lw_Z below #[Value.ref b] s) (F0 m 867 ls []) := by
  obtain ⟨hx, hb, hr, hml, hown, hts, hX, hbl, hlocks, hgv⟩ := id C0
  have S : SF p m c code 4 s #[Value.ref b] RL := ⟨hx, hb, hml, hown, fun w h => hts w (wT_lw h)⟩
  refine lv_aload_n hx hb dL_law_867 rfl (lvA1 hl) ?_
  refine lv_aload_n hx hb dL_law_868 rfl (lvA0 hl) ?_
  refine lv_iload_n hx hb dL_law_869 rfl (lvA3 hl) ?_
  refine lv_iconst (v := 1) hx hb dL_law_870 kic_1 ?_
  refine lv_iadd hx hb dL_law_871 ?_
  refine lv_topi (fun y_1 ey_1 => ?_)
  obtain rfl : y_1 = nI (i + 1) := ey_1.trans (nI_add i 1)
  refine va_sld hx hb hX hbl hbA hS (vp_in_nI (by omega) (by omega)) dL_law_872 ?_
  refine lv_topi (fun y_2 ey_2 => ?_)
  obtain rfl : y_2 = xs (nI (i + 1)).toNatClampNeg := ey_2
  refine lv_aload_n hx hb dL_law_873 rfl (lvA0 hl) ?_
  refine lv_iload_n hx hb dL_law_874 rfl (lvA3 hl) ?_
  refine lv_iconst (v := 2) hx hb dL_law_875 kic_2 ?_
  refine lv_iadd hx hb dL_law_876 ?_
  refine lv_topi (fun y_3 ey_3 => ?_)
  obtain rfl : y_3 = nI (i + 2) := ey_3.trans (nI_add i 2)
  refine va_sld hx hb hX hbl hbA hS (vp_in_nI (by omega) (by omega)) dL_law_877 ?_
  refine lv_topi (fun y_4 ey_4 => ?_)
  obtain rfl : y_4 = xs (nI (i + 2)).toNatClampNeg := ey_4
  refine lv_aload_n hx hb dL_law_878 rfl (lvA0 hl) ?_
  refine lv_iload_n hx hb dL_law_879 rfl (lvA3 hl) ?_
  refine lv_iconst (v := 3) hx hb dL_law_880 kic_3 ?_
  refine lv_iadd hx hb dL_law_881 ?_
  refine lv_topi (fun y_5 ey_5 => ?_)
  obtain rfl : y_5 = nI (i + 3) := ey_5.trans (nI_add i 3)
  refine va_sld hx hb hX hbl hbA hS (vp_in_nI (by omega) (by omega)) dL_law_882 ?_
  refine lv_topi (fun y_6 ey_6 => ?_)
  obtain rfl : y_6 = xs (nI (i + 3)).toNatClampNeg := ey_6
  refine lv_aload_n hx hb dL_law_883 rfl (lvA0 hl) ?_
  refine lv_iload_n hx hb dL_law_884 rfl (lvA3 hl) ?_
  refine lv_iconst (v := 4) hx hb dL_law_885 kic_4 ?_
  refine lv_iadd hx hb dL_law_886 ?_
  refine lv_topi (fun y_7 ey_7 => ?_)
  obtain rfl : y_7 = nI (i + 4) := ey_7.trans (nI_add i 4)
  refine va_sld hx hb hX hbl hbA hS (vp_in_nI (by omega) (by omega)) dL_law_887 ?_
  refine lv_topi (fun y_8 ey_8 => ?_)
  obtain rfl : y_8 = xs (nI (i + 4)).toNatClampNeg := ey_8
  have hFc := free_all (exD hD) hS hA
  refine va_calli (runV_xa (As := [.int (xs (nI (i + 1)).toNatClampNeg), .int (xs (nI (i + 2)).toNatClampNeg), .int (xs (nI (i + 3)).toNatClampNeg), .int (xs (nI (i + 4)).toNatClampNeg)]) (rest := []) S (q_Xproof l D cI cB cZ zz qq vv bt g ad cn In Fn (xs (nI (i + 1)).toNatClampNeg) (xs (nI (i + 2)).toNatClampNeg) (xs (nI (i + 3)).toNatClampNeg) (xs (nI (i + 4)).toNatClampNeg) H.size hI.1) kV_RL_91 hK hXS hS hFc (exP hP) (exD hD) 0 xo_0 rfl rfl ⟨Nat.le_of_ble_eq_true rfl, Nat.le_of_ble_eq_true rfl⟩ ⟨(by show K + 2 ≤ 600000; omega), (by show N + 105 ≤ 7302250; omega)⟩ rfl hl.1 rfl (Nat.le_of_ble_eq_true rfl) dL_law_888) hS (fun q _ h => hFc q h) hFc (fun r8 u t H1 locs ht hvm w8 hB1 hz1 hk1 hS => ?_)
  obtain ⟨a8, c8, I8, F8⟩ := u
  obtain ⟨hP1, hD1⟩ := hB1
  rw [ht] at hP1
  obtain ⟨hP, hD⟩ := exjoinL hP hD hk1 hFc hP1 hD1
  generalize H1 = H at hP hS ⊢
  obtain ⟨hI, hd8, hf8⟩ := ix_proof hI w8
  have hR := RR.fx hR hd8 hf8 (by decide) (by decide)
  refine lv_pop hx hb dL_law_891 rfl ?_
  refine lv_aload_n hx hb dL_law_892 rfl (lvA2 hl) ?_
  refine lv_aload_n hx hb dL_law_893 rfl (lvA0 hl) ?_
  refine lv_iload_n hx hb dL_law_894 rfl (lvA3 hl) ?_
  refine lv_iconst (v := 1) hx hb dL_law_895 kic_1 ?_
  refine lv_iadd hx hb dL_law_896 ?_
  refine lv_topi (fun y_10 ey_10 => ?_)
  obtain rfl : y_10 = nI (i + 1) := ey_10.trans (nI_add i 1)
  refine va_sld hx hb hX hbl hbA hS (vp_in_nI (by omega) (by omega)) dL_law_897 ?_
  refine lv_topi (fun y_11 ey_11 => ?_)
  obtain rfl : y_11 = xs (nI (i + 1)).toNatClampNeg := ey_11
  refine lv_aload_n hx hb dL_law_898 rfl (lvA0 hl) ?_
  refine lv_iload_n hx hb dL_law_899 rfl (lvA3 hl) ?_
  refine lv_iconst (v := 2) hx hb dL_law_900 kic_2 ?_
  refine lv_iadd hx hb dL_law_901 ?_
  refine lv_topi (fun y_12 ey_12 => ?_)
  obtain rfl : y_12 = nI (i + 2) := ey_12.trans (nI_add i 2)
  refine va_sld hx hb hX hbl hbA hS (vp_in_nI (by omega) (by omega)) dL_law_902 ?_
  refine lv_topi (fun y_13 ey_13 => ?_)
  obtain rfl : y_13 = xs (nI (i + 2)).toNatClampNeg := ey_13
  refine lv_aload_n hx hb dL_law_903 rfl (lvA0 hl) ?_
  refine lv_iload_n hx hb dL_law_904 rfl (lvA3 hl) ?_
  refine lv_iconst (v := 3) hx hb dL_law_905 kic_3 ?_
  refine lv_iadd hx hb dL_law_906 ?_
  refine lv_topi (fun y_14 ey_14 => ?_)
  obtain rfl : y_14 = nI (i + 3) := ey_14.trans (nI_add i 3)
  refine va_sld hx hb hX hbl hbA hS (vp_in_nI (by omega) (by omega)) dL_law_907 ?_
  refine lv_topi (fun y_15 ey_15 => ?_)
  obtain rfl : y_15 = xs (nI (i + 3)).toNatClampNeg := ey_15
  refine lv_aload_n hx hb dL_law_908 rfl (lvA0 hl) ?_
  refine lv_iload_n hx hb dL_law_909 rfl (lvA3 hl) ?_
  refine lv_iconst (v := 4) hx hb dL_law_910 kic_4 ?_
  refine lv_iadd hx hb dL_law_911 ?_
  refine lv_topi (fun y_16 ey_16 => ?_)
  obtain rfl : y_16 = nI (i + 4) := ey_16.trans (nI_add i 4)
  refine va_sld hx hb hX hbl hbA hS (vp_in_nI (by omega) (by omega)) dL_law_912 ?_
  refine lv_topi (fun y_17 ey_17 => ?_)
  obtain rfl : y_17 = xs (nI (i + 4)).toNatClampNeg := ey_17
  have hFc := free_all (exDr hD) hS hA
  refine va_calli (runV_a (As := [.int (xs (nI (i + 1)).toNatClampNeg), .int (xs (nI (i + 2)).toNatClampNeg), .int (xs (nI (i + 3)).toNatClampNeg), .int (xs (nI (i + 4)).toNatClampNeg)]) (rest := []) S (q_proof l D cI cB cZ g2 c3 I3 F3 (xs (nI (i + 1)).toNatClampNeg) (xs (nI (i + 2)).toNatClampNeg) (xs (nI (i + 3)).toNatClampNeg) (xs (nI (i + 4)).toNatClampNeg) H.size hM.1) kV_RL_94 hK (exPr hP) (exDr hD) 0 rfl rfl rfl ⟨Nat.le_of_ble_eq_true rfl, Nat.le_of_ble_eq_true rfl⟩ ⟨(by show K + 2 + 0 ≤ 600000; omega), (by show N + 105 + 0 ≤ 7302250; omega)⟩ rfl hl.1 rfl (Nat.le_of_ble_eq_true rfl) dL_law_913) hS (fun q _ h => hFc q h) hFc (fun r17 u t H1 locs ht hvm w17 hB1 hz1 hk1 hS => ?_)
  obtain ⟨c17, I17, F17⟩ := u
  obtain ⟨hP1, hD1⟩ := hB1
  rw [ht] at hP1
  obtain ⟨hP, hD⟩ := exjoin hP hD hk1 hFc hP1 hD1
  generalize H1 = H at hP hS ⊢
  obtain ⟨hM, hd17, hf17⟩ := imm_proof hM w17
  have hR := RR.fm hR hd17 hf17 (by decide) (by decide)
  refine lv_pop hx hb dL_law_916 rfl ?_
  refine lv_goto (tgt := 2269) hx hb dL_law_917 rfl ?_
  refine W.widen (k := K + 8) (n := N + 240) (by omega) (by omega) ?_
  exact kk _ _ _ _ _ _ _ _ _ hI hM hR hP hD hS ls hl
set_option maxRecDepth 100000 in
set_option maxHeartbeats 4000000 in
theorem lawc_18 {p : Program} {l : Launch} {e : Env} {s : State} {m : MethodId} {below : List Frame} {meth : Method} {c : Code} {b L : Nat} {xs : Nat → Int32} (C0 : lw_At p s m meth c b L xs) (hLN : L ≤ 3584) {A : Nat → Prop} (hA : ∀ q : Nat, s.heap.size ≤ q → A q) (hbA : ¬ A b) {D : va_G} {cI cB cZ : ClassId} {zz qq vv : Nat} {bt : Nat → Int32} {g g2 : Nat → Nat} (hK : KK D cI cB cZ s) (hXS : XS D zz qq vv bt A s s.heap) {ad : Nat → Nat → Nat} {cn : Nat → Nat} {In : Nat → Int32} {Fn : Nat → Nat → Int32} {c3 : Nat → Nat} {I3 : Nat → Int32} {F3 : Nat → Nat → Int32} (hI : IX ad cn Fn) (hM : IMM c3 F3) (hR : RR cn Fn c3 F3) {H : Heap} {locs : List Loc} (hP : va_P D vwCl (wX cI (D.1 99) zz g ad cn In Fn ++ wM cI cB cZ g2 c3 I3 F3) H) (hD : va_D A (wX cI (D.1 99) zz g ad cn In Fn ++ wM cI cB cZ g2 c3 I3 F3)) (hS : va_S A s.heap H locs) {K N i : Nat} (hi : i + 7 ≤ L) (hKN : K + 8 ≤ 600000 ∧ N + 240 ≤ 7302250) {ls : Array Slot} (hl : lv_has ls 4 [(0, .ref b), (1, .ref (g 0)), (2, .ref (g2 100)), (3, .int (nI i))]) (kk : ∀ (ad : Nat → Nat → Nat) (cn : Nat → Nat) (In : Nat → Int32) (Fn : Nat → Nat → Int32) (c3 : Nat → Nat) (I3 : Nat → Int32) (F3 : Nat → Nat → Int32) (H : Heap) (locs : List Loc), IX ad cn Fn → IMM c3 F3 → RR cn Fn c3 F3 → va_P D vwCl (wX cI (D.1 99) zz g ad cn In Fn ++ wM cI cB cZ g2 c3 I3 F3) H → va_D A (wX cI (D.1 99) zz g ad cn In Fn ++ wM cI cB cZ g2 c3 I3 F3) → va_S A s.heap H locs → ∀ ls : Array Slot, lv_has ls 4 [(0, .ref b), (1, .ref (g 0)), (2, .ref (g2 100)), (3, .int (nI i))] → W p l e room_1 s m #[Value.ref b] below meth c H locs (K + 8) (N + 240) (lw_Z below #[Value.ref b] s) (F0 m 2269 ls [])) : W p l e room_1 s m #[Value.ref b] below meth c H locs K N (lw_Z below #[Value.ref b] s) (F0 m 920 ls []) := by
  obtain ⟨hx, hb, hr, hml, hown, hts, hX, hbl, hlocks, hgv⟩ := id C0
  have S : SF p m c code 4 s #[Value.ref b] RL := ⟨hx, hb, hml, hown, fun w h => hts w (wT_lw h)⟩
  refine lv_aload_n hx hb dL_law_920 rfl (lvA1 hl) ?_
  refine lv_aload_n hx hb dL_law_921 rfl (lvA0 hl) ?_
  refine lv_iload_n hx hb dL_law_922 rfl (lvA3 hl) ?_
  refine lv_iconst (v := 1) hx hb dL_law_923 kic_1 ?_
  refine lv_iadd hx hb dL_law_924 ?_
  refine lv_topi (fun y_1 ey_1 => ?_)
  obtain rfl : y_1 = nI (i + 1) := ey_1.trans (nI_add i 1)
  refine va_sld hx hb hX hbl hbA hS (vp_in_nI (by omega) (by omega)) dL_law_925 ?_
  refine lv_topi (fun y_2 ey_2 => ?_)
  obtain rfl : y_2 = xs (nI (i + 1)).toNatClampNeg := ey_2
  refine vp_callSi (runV_rxa (As := [.int (xs (nI (i + 1)).toNatClampNeg)]) (rest := []) S (q_Xtwice l D cI cB cZ zz qq vv bt g ad cn In Fn (xs (nI (i + 1)).toNatClampNeg) hI.1) kV_RL_95 hK hXS hS (exP hP) 0 xo_0 rfl rfl ⟨Nat.le_of_ble_eq_true rfl, Nat.le_of_ble_eq_true rfl⟩ ⟨(by show K + 0 ≤ 600000; omega), (by show N + 0 ≤ 7302250; omega)⟩ rfl hl.1 rfl (Nat.le_of_ble_eq_true rfl) dL_law_926) (fun r2 w2 => ?_)
  refine lv_pop hx hb dL_law_929 rfl ?_
  refine lv_aload_n hx hb dL_law_930 rfl (lvA2 hl) ?_
  refine lv_aload_n hx hb dL_law_931 rfl (lvA0 hl) ?_
  refine lv_iload_n hx hb dL_law_932 rfl (lvA3 hl) ?_
  refine lv_iconst (v := 1) hx hb dL_law_933 kic_1 ?_
  refine lv_iadd hx hb dL_law_934 ?_
  refine lv_topi (fun y_4 ey_4 => ?_)
  obtain rfl : y_4 = nI (i + 1) := ey_4.trans (nI_add i 1)
  refine va_sld hx hb hX hbl hbA hS (vp_in_nI (by omega) (by omega)) dL_law_935 ?_
  refine lv_topi (fun y_5 ey_5 => ?_)
  obtain rfl : y_5 = xs (nI (i + 1)).toNatClampNeg := ey_5
  refine vp_callSi (runV_ra (As := [.int (xs (nI (i + 1)).toNatClampNeg)]) (rest := []) S (q_twice l D cI cB cZ g2 c3 I3 F3 (xs (nI (i + 1)).toNatClampNeg) hM.1) kV_RL_98 hK (exPr hP) 0 rfl rfl rfl ⟨Nat.le_of_ble_eq_true rfl, Nat.le_of_ble_eq_true rfl⟩ ⟨(by show K + 0 ≤ 600000; omega), (by show N + 0 ≤ 7302250; omega)⟩ rfl hl.1 rfl (Nat.le_of_ble_eq_true rfl) dL_law_936) (fun r5 w5 => ?_)
  refine lv_pop hx hb dL_law_939 rfl ?_
  refine lv_goto (tgt := 2269) hx hb dL_law_940 rfl ?_
  refine W.widen (k := K + 8) (n := N + 240) (by omega) (by omega) ?_
  exact kk _ _ _ _ _ _ _ _ _ hI hM hR hP hD hS ls hl
set_option maxRecDepth 100000 in
set_option maxHeartbeats 4000000 in
theorem lawc_19 {p : Program} {l : Launch} {e : Env} {s : State} {m : MethodId} {below : List Frame} {meth : Method} {c : Code} {b L : Nat} {xs : Nat → Int32} (C0 : lw_At p s m meth c b L xs) (hLN : L ≤ 3584) {A : Nat → Prop} (hA : ∀ q : Nat, s.heap.size ≤ q → A q) (hbA : ¬ A b) {D : va_G} {cI cB cZ : ClassId} {zz qq vv : Nat} {bt : Nat → Int32} {g g2 : Nat → Nat} (hK : KK D cI cB cZ s) (hXS : XS D zz qq vv bt A s s.heap) {ad : Nat → Nat → Nat} {cn : Nat → Nat} {In : Nat → Int32} {Fn : Nat → Nat → Int32} {c3 : Nat → Nat} {I3 : Nat → Int32} {F3 : Nat → Nat → Int32} (hI : IX ad cn Fn) (hM : IMM c3 F3) (hR : RR cn Fn c3 F3) {H : Heap} {locs : List Loc} (hP : va_P D vwCl (wX cI (D.1 99) zz g ad cn In Fn ++ wM cI cB cZ g2 c3 I3 F3) H) (hD : va_D A (wX cI (D.1 99) zz g ad cn In Fn ++ wM cI cB cZ g2 c3 I3 F3)) (hS : va_S A s.heap H locs) {K N i : Nat} (hi : i + 7 ≤ L) (hKN : K + 8 ≤ 600000 ∧ N + 240 ≤ 7302250) {ls : Array Slot} (hl : lv_has ls 4 [(0, .ref b), (1, .ref (g 0)), (2, .ref (g2 100)), (3, .int (nI i))]) (kk : ∀ (ad : Nat → Nat → Nat) (cn : Nat → Nat) (In : Nat → Int32) (Fn : Nat → Nat → Int32) (c3 : Nat → Nat) (I3 : Nat → Int32) (F3 : Nat → Nat → Int32) (H : Heap) (locs : List Loc), IX ad cn Fn → IMM c3 F3 → RR cn Fn c3 F3 → va_P D vwCl (wX cI (D.1 99) zz g ad cn In Fn ++ wM cI cB cZ g2 c3 I3 F3) H → va_D A (wX cI (D.1 99) zz g ad cn In Fn ++ wM cI cB cZ g2 c3 I3 F3) → va_S A s.heap H locs → ∀ ls : Array Slot, lv_has ls 4 [(0, .ref b), (1, .ref (g 0)), (2, .ref (g2 100)), (3, .int (nI i))] → W p l e room_1 s m #[Value.ref b] below meth c H locs (K + 8) (N + 240) (lw_Z below #[Value.ref b] s) (F0 m 2269 ls [])) : W p l e room_1 s m #[Value.ref b] below meth c H locs K N (lw_Z below #[Value.ref b] s) (F0 m 943 ls []) := by
  obtain ⟨hx, hb, hr, hml, hown, hts, hX, hbl, hlocks, hgv⟩ := id C0
  have S : SF p m c code 4 s #[Value.ref b] RL := ⟨hx, hb, hml, hown, fun w h => hts w (wT_lw h)⟩
  refine lv_aload_n hx hb dL_law_943 rfl (lvA1 hl) ?_
  refine lv_aload_n hx hb dL_law_944 rfl (lvA0 hl) ?_
  refine lv_iload_n hx hb dL_law_945 rfl (lvA3 hl) ?_
  refine lv_iconst (v := 1) hx hb dL_law_946 kic_1 ?_
  refine lv_iadd hx hb dL_law_947 ?_
  refine lv_topi (fun y_1 ey_1 => ?_)
  obtain rfl : y_1 = nI (i + 1) := ey_1.trans (nI_add i 1)
  refine va_sld hx hb hX hbl hbA hS (vp_in_nI (by omega) (by omega)) dL_law_948 ?_
  refine lv_topi (fun y_2 ey_2 => ?_)
  obtain rfl : y_2 = xs (nI (i + 1)).toNatClampNeg := ey_2
  refine lv_aload_n hx hb dL_law_949 rfl (lvA0 hl) ?_
  refine lv_iload_n hx hb dL_law_950 rfl (lvA3 hl) ?_
  refine lv_iconst (v := 2) hx hb dL_law_951 kic_2 ?_
  refine lv_iadd hx hb dL_law_952 ?_
  refine lv_topi (fun y_3 ey_3 => ?_)
  obtain rfl : y_3 = nI (i + 2) := ey_3.trans (nI_add i 2)
  refine va_sld hx hb hX hbl hbA hS (vp_in_nI (by omega) (by omega)) dL_law_953 ?_
  refine lv_topi (fun y_4 ey_4 => ?_)
  obtain rfl : y_4 = xs (nI (i + 2)).toNatClampNeg := ey_4
  refine vp_callSi (runV_rxa (As := [.int (xs (nI (i + 1)).toNatClampNeg), .int (xs (nI (i + 2)).toNatClampNeg)]) (rest := []) S (q_Xbought l D cI cB cZ zz qq vv bt g ad cn In Fn (xs (nI (i + 1)).toNatClampNeg) (xs (nI (i + 2)).toNatClampNeg) hI.1) kV_RL_99 hK hXS hS (exP hP) 0 xo_0 rfl rfl ⟨Nat.le_of_ble_eq_true rfl, Nat.le_of_ble_eq_true rfl⟩ ⟨(by show K + 0 ≤ 600000; omega), (by show N + 0 ≤ 7302250; omega)⟩ rfl hl.1 rfl (Nat.le_of_ble_eq_true rfl) dL_law_954) (fun r4 w4 => ?_)
  refine lv_pop hx hb dL_law_957 rfl ?_
  refine lv_aload_n hx hb dL_law_958 rfl (lvA2 hl) ?_
  refine lv_aload_n hx hb dL_law_959 rfl (lvA0 hl) ?_
  refine lv_iload_n hx hb dL_law_960 rfl (lvA3 hl) ?_
  refine lv_iconst (v := 1) hx hb dL_law_961 kic_1 ?_
  refine lv_iadd hx hb dL_law_962 ?_
  refine lv_topi (fun y_6 ey_6 => ?_)
  obtain rfl : y_6 = nI (i + 1) := ey_6.trans (nI_add i 1)
  refine va_sld hx hb hX hbl hbA hS (vp_in_nI (by omega) (by omega)) dL_law_963 ?_
  refine lv_topi (fun y_7 ey_7 => ?_)
  obtain rfl : y_7 = xs (nI (i + 1)).toNatClampNeg := ey_7
  refine lv_aload_n hx hb dL_law_964 rfl (lvA0 hl) ?_
  refine lv_iload_n hx hb dL_law_965 rfl (lvA3 hl) ?_
  refine lv_iconst (v := 2) hx hb dL_law_966 kic_2 ?_
  refine lv_iadd hx hb dL_law_967 ?_
  refine lv_topi (fun y_8 ey_8 => ?_)
  obtain rfl : y_8 = nI (i + 2) := ey_8.trans (nI_add i 2)
  refine va_sld hx hb hX hbl hbA hS (vp_in_nI (by omega) (by omega)) dL_law_968 ?_
  refine lv_topi (fun y_9 ey_9 => ?_)
  obtain rfl : y_9 = xs (nI (i + 2)).toNatClampNeg := ey_9
  have hFc := free_all (exDr hD) hS hA
  refine va_calli (runV_a (As := [.int (xs (nI (i + 1)).toNatClampNeg), .int (xs (nI (i + 2)).toNatClampNeg)]) (rest := []) S (q_bought l D cI cB cZ g2 c3 I3 F3 (xs (nI (i + 1)).toNatClampNeg) (xs (nI (i + 2)).toNatClampNeg) H.size hM.1) kV_RL_102 hK (exPr hP) (exDr hD) 0 rfl rfl rfl ⟨Nat.le_of_ble_eq_true rfl, Nat.le_of_ble_eq_true rfl⟩ ⟨(by show K + 0 ≤ 600000; omega), (by show N + 0 ≤ 7302250; omega)⟩ rfl hl.1 rfl (Nat.le_of_ble_eq_true rfl) dL_law_969) hS (fun q _ h => hFc q h) hFc (fun r9 u t H1 locs ht hvm w9 hB1 hz1 hk1 hS => ?_)
  obtain ⟨c9, I9, F9⟩ := u
  obtain ⟨hP1, hD1⟩ := hB1
  rw [ht] at hP1
  obtain ⟨hP, hD⟩ := exjoin hP hD hk1 hFc hP1 hD1
  generalize H1 = H at hP hS ⊢
  obtain ⟨hM, hd9, hf9⟩ := imm_bought hM w9
  have hR := RR.fm hR hd9 hf9 (by decide) (by decide)
  refine lv_pop hx hb dL_law_972 rfl ?_
  refine lv_goto (tgt := 2269) hx hb dL_law_973 rfl ?_
  refine W.widen (k := K + 8) (n := N + 240) (by omega) (by omega) ?_
  exact kk _ _ _ _ _ _ _ _ _ hI hM hR hP hD hS ls hl
set_option maxRecDepth 100000 in
set_option maxHeartbeats 4000000 in
theorem lawc_20 {p : Program} {l : Launch} {e : Env} {s : State} {m : MethodId} {below : List Frame} {meth : Method} {c : Code} {b L : Nat} {xs : Nat → Int32} (C0 : lw_At p s m meth c b L xs) (hLN : L ≤ 3584) {A : Nat → Prop} (hA : ∀ q : Nat, s.heap.size ≤ q → A q) (hbA : ¬ A b) {D : va_G} {cI cB cZ : ClassId} {zz qq vv : Nat} {bt : Nat → Int32} {g g2 : Nat → Nat} (hK : KK D cI cB cZ s) (hXS : XS D zz qq vv bt A s s.heap) {ad : Nat → Nat → Nat} {cn : Nat → Nat} {In : Nat → Int32} {Fn : Nat → Nat → Int32} {c3 : Nat → Nat} {I3 : Nat → Int32} {F3 : Nat → Nat → Int32} (hI : IX ad cn Fn) (hM : IMM c3 F3) (hR : RR cn Fn c3 F3) {H : Heap} {locs : List Loc} (hP : va_P D vwCl (wX cI (D.1 99) zz g ad cn In Fn ++ wM cI cB cZ g2 c3 I3 F3) H) (hD : va_D A (wX cI (D.1 99) zz g ad cn In Fn ++ wM cI cB cZ g2 c3 I3 F3)) (hS : va_S A s.heap H locs) {K N i : Nat} (hi : i + 7 ≤ L) (hKN : K + 8 ≤ 600000 ∧ N + 240 ≤ 7302250) {ls : Array Slot} (hl : lv_has ls 4 [(0, .ref b), (1, .ref (g 0)), (2, .ref (g2 100)), (3, .int (nI i))]) (kk : ∀ (ad : Nat → Nat → Nat) (cn : Nat → Nat) (In : Nat → Int32) (Fn : Nat → Nat → Int32) (c3 : Nat → Nat) (I3 : Nat → Int32) (F3 : Nat → Nat → Int32) (H : Heap) (locs : List Loc), IX ad cn Fn → IMM c3 F3 → RR cn Fn c3 F3 → va_P D vwCl (wX cI (D.1 99) zz g ad cn In Fn ++ wM cI cB cZ g2 c3 I3 F3) H → va_D A (wX cI (D.1 99) zz g ad cn In Fn ++ wM cI cB cZ g2 c3 I3 F3) → va_S A s.heap H locs → ∀ ls : Array Slot, lv_has ls 4 [(0, .ref b), (1, .ref (g 0)), (2, .ref (g2 100)), (3, .int (nI i))] → W p l e room_1 s m #[Value.ref b] below meth c H locs (K + 8) (N + 240) (lw_Z below #[Value.ref b] s) (F0 m 2269 ls [])) : W p l e room_1 s m #[Value.ref b] below meth c H locs K N (lw_Z below #[Value.ref b] s) (F0 m 976 ls []) := by
  obtain ⟨hx, hb, hr, hml, hown, hts, hX, hbl, hlocks, hgv⟩ := id C0
  have S : SF p m c code 4 s #[Value.ref b] RL := ⟨hx, hb, hml, hown, fun w h => hts w (wT_lw h)⟩
  refine lv_aload_n hx hb dL_law_976 rfl (lvA1 hl) ?_
  refine lv_aload_n hx hb dL_law_977 rfl (lvA0 hl) ?_
  refine lv_iload_n hx hb dL_law_978 rfl (lvA3 hl) ?_
  refine lv_iconst (v := 1) hx hb dL_law_979 kic_1 ?_
  refine lv_iadd hx hb dL_law_980 ?_
  refine lv_topi (fun y_1 ey_1 => ?_)
  obtain rfl : y_1 = nI (i + 1) := ey_1.trans (nI_add i 1)
  refine va_sld hx hb hX hbl hbA hS (vp_in_nI (by omega) (by omega)) dL_law_981 ?_
  refine lv_topi (fun y_2 ey_2 => ?_)
  obtain rfl : y_2 = xs (nI (i + 1)).toNatClampNeg := ey_2
  refine lv_aload_n hx hb dL_law_982 rfl (lvA0 hl) ?_
  refine lv_iload_n hx hb dL_law_983 rfl (lvA3 hl) ?_
  refine lv_iconst (v := 2) hx hb dL_law_984 kic_2 ?_
  refine lv_iadd hx hb dL_law_985 ?_
  refine lv_topi (fun y_3 ey_3 => ?_)
  obtain rfl : y_3 = nI (i + 2) := ey_3.trans (nI_add i 2)
  refine va_sld hx hb hX hbl hbA hS (vp_in_nI (by omega) (by omega)) dL_law_986 ?_
  refine lv_topi (fun y_4 ey_4 => ?_)
  obtain rfl : y_4 = xs (nI (i + 2)).toNatClampNeg := ey_4
  refine lv_aload_n hx hb dL_law_987 rfl (lvA0 hl) ?_
  refine lv_iload_n hx hb dL_law_988 rfl (lvA3 hl) ?_
  refine lv_iconst (v := 3) hx hb dL_law_989 kic_3 ?_
  refine lv_iadd hx hb dL_law_990 ?_
  refine lv_topi (fun y_5 ey_5 => ?_)
  obtain rfl : y_5 = nI (i + 3) := ey_5.trans (nI_add i 3)
  refine va_sld hx hb hX hbl hbA hS (vp_in_nI (by omega) (by omega)) dL_law_991 ?_
  refine lv_topi (fun y_6 ey_6 => ?_)
  obtain rfl : y_6 = xs (nI (i + 3)).toNatClampNeg := ey_6
  have hFc := free_all (exD hD) hS hA
  refine va_calli (runV_xa (As := [.int (xs (nI (i + 1)).toNatClampNeg), .int (xs (nI (i + 2)).toNatClampNeg), .int (xs (nI (i + 3)).toNatClampNeg)]) (rest := []) S (q_Xoffers l D cI cB cZ zz qq vv bt g ad cn In Fn (xs (nI (i + 1)).toNatClampNeg) (xs (nI (i + 2)).toNatClampNeg) (xs (nI (i + 3)).toNatClampNeg) H.size hI.1) kV_RL_103 hK hXS hS hFc (exP hP) (exD hD) 0 xo_0 rfl rfl ⟨Nat.le_of_ble_eq_true rfl, Nat.le_of_ble_eq_true rfl⟩ ⟨(by show K + 0 ≤ 600000; omega), (by show N + 0 ≤ 7302250; omega)⟩ rfl hl.1 rfl (Nat.le_of_ble_eq_true rfl) dL_law_992) hS (fun q _ h => hFc q h) hFc (fun r6 u t H1 locs ht hvm w6 hB1 hz1 hk1 hS => ?_)
  obtain ⟨c6, I6, F6⟩ := u
  obtain ⟨hP1, hD1⟩ := hB1
  rw [ht] at hP1
  obtain ⟨hP, hD⟩ := exjoinL hP hD hk1 hFc hP1 hD1
  generalize H1 = H at hP hS ⊢
  have hd6 := w6.1.1
  have hf6 := w6.1.2.2
  have hI := IX.fr hI w6.1 w6.2.1 (by decide) (by decide)
  have hR := RR.fx hR hd6 hf6 (by decide) (by decide)
  refine lv_pop hx hb dL_law_995 rfl ?_
  refine lv_aload_n hx hb dL_law_996 rfl (lvA2 hl) ?_
  refine lv_aload_n hx hb dL_law_997 rfl (lvA0 hl) ?_
  refine lv_iload_n hx hb dL_law_998 rfl (lvA3 hl) ?_
  refine lv_iconst (v := 1) hx hb dL_law_999 kic_1 ?_
  refine lv_iadd hx hb dL_law_1000 ?_
  refine lv_topi (fun y_8 ey_8 => ?_)
  obtain rfl : y_8 = nI (i + 1) := ey_8.trans (nI_add i 1)
  refine va_sld hx hb hX hbl hbA hS (vp_in_nI (by omega) (by omega)) dL_law_1001 ?_
  refine lv_topi (fun y_9 ey_9 => ?_)
  obtain rfl : y_9 = xs (nI (i + 1)).toNatClampNeg := ey_9
  refine lv_aload_n hx hb dL_law_1002 rfl (lvA0 hl) ?_
  refine lv_iload_n hx hb dL_law_1003 rfl (lvA3 hl) ?_
  refine lv_iconst (v := 2) hx hb dL_law_1004 kic_2 ?_
  refine lv_iadd hx hb dL_law_1005 ?_
  refine lv_topi (fun y_10 ey_10 => ?_)
  obtain rfl : y_10 = nI (i + 2) := ey_10.trans (nI_add i 2)
  refine va_sld hx hb hX hbl hbA hS (vp_in_nI (by omega) (by omega)) dL_law_1006 ?_
  refine lv_topi (fun y_11 ey_11 => ?_)
  obtain rfl : y_11 = xs (nI (i + 2)).toNatClampNeg := ey_11
  refine lv_aload_n hx hb dL_law_1007 rfl (lvA0 hl) ?_
  refine lv_iload_n hx hb dL_law_1008 rfl (lvA3 hl) ?_
  refine lv_iconst (v := 3) hx hb dL_law_1009 kic_3 ?_
  refine lv_iadd hx hb dL_law_1010 ?_
  refine lv_topi (fun y_12 ey_12 => ?_)
  obtain rfl : y_12 = nI (i + 3) := ey_12.trans (nI_add i 3)
  refine va_sld hx hb hX hbl hbA hS (vp_in_nI (by omega) (by omega)) dL_law_1011 ?_
  refine lv_topi (fun y_13 ey_13 => ?_)
  obtain rfl : y_13 = xs (nI (i + 3)).toNatClampNeg := ey_13
  have hFc := free_all (exDr hD) hS hA
  refine va_calli (runV_a (As := [.int (xs (nI (i + 1)).toNatClampNeg), .int (xs (nI (i + 2)).toNatClampNeg), .int (xs (nI (i + 3)).toNatClampNeg)]) (rest := []) S (q_offers l D cI cB cZ g2 c3 I3 F3 (xs (nI (i + 1)).toNatClampNeg) (xs (nI (i + 2)).toNatClampNeg) (xs (nI (i + 3)).toNatClampNeg) H.size hM.1) kV_RL_107 hK (exPr hP) (exDr hD) 0 rfl rfl rfl ⟨Nat.le_of_ble_eq_true rfl, Nat.le_of_ble_eq_true rfl⟩ ⟨(by show K + 0 ≤ 600000; omega), (by show N + 0 ≤ 7302250; omega)⟩ rfl hl.1 rfl (Nat.le_of_ble_eq_true rfl) dL_law_1012) hS (fun q _ h => hFc q h) hFc (fun r13 u t H1 locs ht hvm w13 hB1 hz1 hk1 hS => ?_)
  obtain ⟨c13, I13, F13⟩ := u
  obtain ⟨hP1, hD1⟩ := hB1
  rw [ht] at hP1
  obtain ⟨hP, hD⟩ := exjoin hP hD hk1 hFc hP1 hD1
  generalize H1 = H at hP hS ⊢
  obtain ⟨hM, hd13, hf13⟩ := imm_offers hM w13
  have hR := RR.fm hR hd13 hf13 (by decide) (by decide)
  refine lv_pop hx hb dL_law_1015 rfl ?_
  refine lv_goto (tgt := 2269) hx hb dL_law_1016 rfl ?_
  refine W.widen (k := K + 8) (n := N + 240) (by omega) (by omega) ?_
  exact kk _ _ _ _ _ _ _ _ _ hI hM hR hP hD hS ls hl
set_option maxRecDepth 100000 in
set_option maxHeartbeats 4000000 in
theorem lawc_21 {p : Program} {l : Launch} {e : Env} {s : State} {m : MethodId} {below : List Frame} {meth : Method} {c : Code} {b L : Nat} {xs : Nat → Int32} (C0 : lw_At p s m meth c b L xs) (hLN : L ≤ 3584) {A : Nat → Prop} (hA : ∀ q : Nat, s.heap.size ≤ q → A q) (hbA : ¬ A b) {D : va_G} {cI cB cZ : ClassId} {zz qq vv : Nat} {bt : Nat → Int32} {g g2 : Nat → Nat} (hK : KK D cI cB cZ s) (hXS : XS D zz qq vv bt A s s.heap) {ad : Nat → Nat → Nat} {cn : Nat → Nat} {In : Nat → Int32} {Fn : Nat → Nat → Int32} {c3 : Nat → Nat} {I3 : Nat → Int32} {F3 : Nat → Nat → Int32} (hI : IX ad cn Fn) (hM : IMM c3 F3) (hR : RR cn Fn c3 F3) {H : Heap} {locs : List Loc} (hP : va_P D vwCl (wX cI (D.1 99) zz g ad cn In Fn ++ wM cI cB cZ g2 c3 I3 F3) H) (hD : va_D A (wX cI (D.1 99) zz g ad cn In Fn ++ wM cI cB cZ g2 c3 I3 F3)) (hS : va_S A s.heap H locs) {K N i : Nat} (hi : i + 7 ≤ L) (hKN : K + 8 ≤ 600000 ∧ N + 240 ≤ 7302250) {ls : Array Slot} (hl : lv_has ls 4 [(0, .ref b), (1, .ref (g 0)), (2, .ref (g2 100)), (3, .int (nI i))]) (kk : ∀ (ad : Nat → Nat → Nat) (cn : Nat → Nat) (In : Nat → Int32) (Fn : Nat → Nat → Int32) (c3 : Nat → Nat) (I3 : Nat → Int32) (F3 : Nat → Nat → Int32) (H : Heap) (locs : List Loc), IX ad cn Fn → IMM c3 F3 → RR cn Fn c3 F3 → va_P D vwCl (wX cI (D.1 99) zz g ad cn In Fn ++ wM cI cB cZ g2 c3 I3 F3) H → va_D A (wX cI (D.1 99) zz g ad cn In Fn ++ wM cI cB cZ g2 c3 I3 F3) → va_S A s.heap H locs → ∀ ls : Array Slot, lv_has ls 4 [(0, .ref b), (1, .ref (g 0)), (2, .ref (g2 100)), (3, .int (nI i))] → W p l e room_1 s m #[Value.ref b] below meth c H locs (K + 8) (N + 240) (lw_Z below #[Value.ref b] s) (F0 m 2269 ls [])) : W p l e room_1 s m #[Value.ref b] below meth c H locs K N (lw_Z below #[Value.ref b] s) (F0 m 1019 ls []) := by
  obtain ⟨hx, hb, hr, hml, hown, hts, hX, hbl, hlocks, hgv⟩ := id C0
  have S : SF p m c code 4 s #[Value.ref b] RL := ⟨hx, hb, hml, hown, fun w h => hts w (wT_lw h)⟩
  refine lv_aload_n hx hb dL_law_1019 rfl (lvA1 hl) ?_
  refine lv_aload_n hx hb dL_law_1020 rfl (lvA0 hl) ?_
  refine lv_iload_n hx hb dL_law_1021 rfl (lvA3 hl) ?_
  refine lv_iconst (v := 1) hx hb dL_law_1022 kic_1 ?_
  refine lv_iadd hx hb dL_law_1023 ?_
  refine lv_topi (fun y_1 ey_1 => ?_)
  obtain rfl : y_1 = nI (i + 1) := ey_1.trans (nI_add i 1)
  refine va_sld hx hb hX hbl hbA hS (vp_in_nI (by omega) (by omega)) dL_law_1024 ?_
  refine lv_topi (fun y_2 ey_2 => ?_)
  obtain rfl : y_2 = xs (nI (i + 1)).toNatClampNeg := ey_2
  refine lv_aload_n hx hb dL_law_1025 rfl (lvA0 hl) ?_
  refine lv_iload_n hx hb dL_law_1026 rfl (lvA3 hl) ?_
  refine lv_iconst (v := 2) hx hb dL_law_1027 kic_2 ?_
  refine lv_iadd hx hb dL_law_1028 ?_
  refine lv_topi (fun y_3 ey_3 => ?_)
  obtain rfl : y_3 = nI (i + 2) := ey_3.trans (nI_add i 2)
  refine va_sld hx hb hX hbl hbA hS (vp_in_nI (by omega) (by omega)) dL_law_1029 ?_
  refine lv_topi (fun y_4 ey_4 => ?_)
  obtain rfl : y_4 = xs (nI (i + 2)).toNatClampNeg := ey_4
  refine vp_callSi (runV_rxa (As := [.int (xs (nI (i + 1)).toNatClampNeg), .int (xs (nI (i + 2)).toNatClampNeg)]) (rest := []) S (q_Xworth l D cI cB cZ zz qq vv bt g ad cn In Fn (xs (nI (i + 1)).toNatClampNeg) (xs (nI (i + 2)).toNatClampNeg) hI.1) kV_RL_108 hK hXS hS (exP hP) 0 xo_0 rfl rfl ⟨Nat.le_of_ble_eq_true rfl, Nat.le_of_ble_eq_true rfl⟩ ⟨(by show K + 0 ≤ 600000; omega), (by show N + 0 ≤ 7302250; omega)⟩ rfl hl.1 rfl (Nat.le_of_ble_eq_true rfl) dL_law_1030) (fun r4 w4 => ?_)
  refine lv_pop hx hb dL_law_1033 rfl ?_
  refine lv_aload_n hx hb dL_law_1034 rfl (lvA2 hl) ?_
  refine lv_aload_n hx hb dL_law_1035 rfl (lvA0 hl) ?_
  refine lv_iload_n hx hb dL_law_1036 rfl (lvA3 hl) ?_
  refine lv_iconst (v := 1) hx hb dL_law_1037 kic_1 ?_
  refine lv_iadd hx hb dL_law_1038 ?_
  refine lv_topi (fun y_6 ey_6 => ?_)
  obtain rfl : y_6 = nI (i + 1) := ey_6.trans (nI_add i 1)
  refine va_sld hx hb hX hbl hbA hS (vp_in_nI (by omega) (by omega)) dL_law_1039 ?_
  refine lv_topi (fun y_7 ey_7 => ?_)
  obtain rfl : y_7 = xs (nI (i + 1)).toNatClampNeg := ey_7
  refine lv_aload_n hx hb dL_law_1040 rfl (lvA0 hl) ?_
  refine lv_iload_n hx hb dL_law_1041 rfl (lvA3 hl) ?_
  refine lv_iconst (v := 2) hx hb dL_law_1042 kic_2 ?_
  refine lv_iadd hx hb dL_law_1043 ?_
  refine lv_topi (fun y_8 ey_8 => ?_)
  obtain rfl : y_8 = nI (i + 2) := ey_8.trans (nI_add i 2)
  refine va_sld hx hb hX hbl hbA hS (vp_in_nI (by omega) (by omega)) dL_law_1044 ?_
  refine lv_topi (fun y_9 ey_9 => ?_)
  obtain rfl : y_9 = xs (nI (i + 2)).toNatClampNeg := ey_9
  refine vp_callSi (runV_ra (As := [.int (xs (nI (i + 1)).toNatClampNeg), .int (xs (nI (i + 2)).toNatClampNeg)]) (rest := []) S (q_worth l D cI cB cZ g2 c3 I3 F3 (xs (nI (i + 1)).toNatClampNeg) (xs (nI (i + 2)).toNatClampNeg) hM.1) kV_RL_111 hK (exPr hP) 0 rfl rfl rfl ⟨Nat.le_of_ble_eq_true rfl, Nat.le_of_ble_eq_true rfl⟩ ⟨(by show K + 0 ≤ 600000; omega), (by show N + 0 ≤ 7302250; omega)⟩ rfl hl.1 rfl (Nat.le_of_ble_eq_true rfl) dL_law_1045) (fun r9 w9 => ?_)
  refine lv_pop hx hb dL_law_1048 rfl ?_
  refine lv_goto (tgt := 2269) hx hb dL_law_1049 rfl ?_
  refine W.widen (k := K + 8) (n := N + 240) (by omega) (by omega) ?_
  exact kk _ _ _ _ _ _ _ _ _ hI hM hR hP hD hS ls hl
set_option maxRecDepth 100000 in
set_option maxHeartbeats 4000000 in
theorem lawc_22 {p : Program} {l : Launch} {e : Env} {s : State} {m : MethodId} {below : List Frame} {meth : Method} {c : Code} {b L : Nat} {xs : Nat → Int32} (C0 : lw_At p s m meth c b L xs) (hLN : L ≤ 3584) {A : Nat → Prop} (hA : ∀ q : Nat, s.heap.size ≤ q → A q) (hbA : ¬ A b) {D : va_G} {cI cB cZ : ClassId} {zz qq vv : Nat} {bt : Nat → Int32} {g g2 : Nat → Nat} (hK : KK D cI cB cZ s) (hXS : XS D zz qq vv bt A s s.heap) {ad : Nat → Nat → Nat} {cn : Nat → Nat} {In : Nat → Int32} {Fn : Nat → Nat → Int32} {c3 : Nat → Nat} {I3 : Nat → Int32} {F3 : Nat → Nat → Int32} (hI : IX ad cn Fn) (hM : IMM c3 F3) (hR : RR cn Fn c3 F3) {H : Heap} {locs : List Loc} (hP : va_P D vwCl (wX cI (D.1 99) zz g ad cn In Fn ++ wM cI cB cZ g2 c3 I3 F3) H) (hD : va_D A (wX cI (D.1 99) zz g ad cn In Fn ++ wM cI cB cZ g2 c3 I3 F3)) (hS : va_S A s.heap H locs) {K N i : Nat} (hi : i + 7 ≤ L) (hKN : K + 8 ≤ 600000 ∧ N + 240 ≤ 7302250) {ls : Array Slot} (hl : lv_has ls 4 [(0, .ref b), (1, .ref (g 0)), (2, .ref (g2 100)), (3, .int (nI i))]) (kk : ∀ (ad : Nat → Nat → Nat) (cn : Nat → Nat) (In : Nat → Int32) (Fn : Nat → Nat → Int32) (c3 : Nat → Nat) (I3 : Nat → Int32) (F3 : Nat → Nat → Int32) (H : Heap) (locs : List Loc), IX ad cn Fn → IMM c3 F3 → RR cn Fn c3 F3 → va_P D vwCl (wX cI (D.1 99) zz g ad cn In Fn ++ wM cI cB cZ g2 c3 I3 F3) H → va_D A (wX cI (D.1 99) zz g ad cn In Fn ++ wM cI cB cZ g2 c3 I3 F3) → va_S A s.heap H locs → ∀ ls : Array Slot, lv_has ls 4 [(0, .ref b), (1, .ref (g 0)), (2, .ref (g2 100)), (3, .int (nI i))] → W p l e room_1 s m #[Value.ref b] below meth c H locs (K + 8) (N + 240) (lw_Z below #[Value.ref b] s) (F0 m 2269 ls [])) : W p l e room_1 s m #[Value.ref b] below meth c H locs K N (lw_Z below #[Value.ref b] s) (F0 m 1052 ls []) := by
  obtain ⟨hx, hb, hr, hml, hown, hts, hX, hbl, hlocks, hgv⟩ := id C0
  have S : SF p m c code 4 s #[Value.ref b] RL := ⟨hx, hb, hml, hown, fun w h => hts w (wT_lw h)⟩
  refine lv_aload_n hx hb dL_law_1052 rfl (lvA1 hl) ?_
  refine lv_aload_n hx hb dL_law_1053 rfl (lvA0 hl) ?_
  refine lv_iload_n hx hb dL_law_1054 rfl (lvA3 hl) ?_
  refine lv_iconst (v := 1) hx hb dL_law_1055 kic_1 ?_
  refine lv_iadd hx hb dL_law_1056 ?_
  refine lv_topi (fun y_1 ey_1 => ?_)
  obtain rfl : y_1 = nI (i + 1) := ey_1.trans (nI_add i 1)
  refine va_sld hx hb hX hbl hbA hS (vp_in_nI (by omega) (by omega)) dL_law_1057 ?_
  refine lv_topi (fun y_2 ey_2 => ?_)
  obtain rfl : y_2 = xs (nI (i + 1)).toNatClampNeg := ey_2
  refine lv_aload_n hx hb dL_law_1058 rfl (lvA0 hl) ?_
  refine lv_iload_n hx hb dL_law_1059 rfl (lvA3 hl) ?_
  refine lv_iconst (v := 2) hx hb dL_law_1060 kic_2 ?_
  refine lv_iadd hx hb dL_law_1061 ?_
  refine lv_topi (fun y_3 ey_3 => ?_)
  obtain rfl : y_3 = nI (i + 2) := ey_3.trans (nI_add i 2)
  refine va_sld hx hb hX hbl hbA hS (vp_in_nI (by omega) (by omega)) dL_law_1062 ?_
  refine lv_topi (fun y_4 ey_4 => ?_)
  obtain rfl : y_4 = xs (nI (i + 2)).toNatClampNeg := ey_4
  refine vp_callSi (runV_rxa (As := [.int (xs (nI (i + 1)).toNatClampNeg), .int (xs (nI (i + 2)).toNatClampNeg)]) (rest := []) S (q_Xoffer l D cI cB cZ zz qq vv bt g ad cn In Fn (xs (nI (i + 1)).toNatClampNeg) (xs (nI (i + 2)).toNatClampNeg) hI.1) kV_RL_112 hK hXS hS (exP hP) 0 xo_0 rfl rfl ⟨Nat.le_of_ble_eq_true rfl, Nat.le_of_ble_eq_true rfl⟩ ⟨(by show K + 0 ≤ 600000; omega), (by show N + 0 ≤ 7302250; omega)⟩ rfl hl.1 rfl (Nat.le_of_ble_eq_true rfl) dL_law_1063) (fun r4 w4 => ?_)
  refine lv_pop hx hb dL_law_1066 rfl ?_
  refine lv_aload_n hx hb dL_law_1067 rfl (lvA2 hl) ?_
  refine lv_aload_n hx hb dL_law_1068 rfl (lvA0 hl) ?_
  refine lv_iload_n hx hb dL_law_1069 rfl (lvA3 hl) ?_
  refine lv_iconst (v := 1) hx hb dL_law_1070 kic_1 ?_
  refine lv_iadd hx hb dL_law_1071 ?_
  refine lv_topi (fun y_6 ey_6 => ?_)
  obtain rfl : y_6 = nI (i + 1) := ey_6.trans (nI_add i 1)
  refine va_sld hx hb hX hbl hbA hS (vp_in_nI (by omega) (by omega)) dL_law_1072 ?_
  refine lv_topi (fun y_7 ey_7 => ?_)
  obtain rfl : y_7 = xs (nI (i + 1)).toNatClampNeg := ey_7
  refine lv_aload_n hx hb dL_law_1073 rfl (lvA0 hl) ?_
  refine lv_iload_n hx hb dL_law_1074 rfl (lvA3 hl) ?_
  refine lv_iconst (v := 2) hx hb dL_law_1075 kic_2 ?_
  refine lv_iadd hx hb dL_law_1076 ?_
  refine lv_topi (fun y_8 ey_8 => ?_)
  obtain rfl : y_8 = nI (i + 2) := ey_8.trans (nI_add i 2)
  refine va_sld hx hb hX hbl hbA hS (vp_in_nI (by omega) (by omega)) dL_law_1077 ?_
  refine lv_topi (fun y_9 ey_9 => ?_)
  obtain rfl : y_9 = xs (nI (i + 2)).toNatClampNeg := ey_9
  refine vp_callSi (runV_ra (As := [.int (xs (nI (i + 1)).toNatClampNeg), .int (xs (nI (i + 2)).toNatClampNeg)]) (rest := []) S (q_offer l D cI cB cZ g2 c3 I3 F3 (xs (nI (i + 1)).toNatClampNeg) (xs (nI (i + 2)).toNatClampNeg) hM.1) kV_RL_115 hK (exPr hP) 0 rfl rfl rfl ⟨Nat.le_of_ble_eq_true rfl, Nat.le_of_ble_eq_true rfl⟩ ⟨(by show K + 0 ≤ 600000; omega), (by show N + 0 ≤ 7302250; omega)⟩ rfl hl.1 rfl (Nat.le_of_ble_eq_true rfl) dL_law_1078) (fun r9 w9 => ?_)
  refine lv_pop hx hb dL_law_1081 rfl ?_
  refine lv_goto (tgt := 2269) hx hb dL_law_1082 rfl ?_
  refine W.widen (k := K + 8) (n := N + 240) (by omega) (by omega) ?_
  exact kk _ _ _ _ _ _ _ _ _ hI hM hR hP hD hS ls hl
set_option maxRecDepth 100000 in
set_option maxHeartbeats 4000000 in
theorem lawc_23 {p : Program} {l : Launch} {e : Env} {s : State} {m : MethodId} {below : List Frame} {meth : Method} {c : Code} {b L : Nat} {xs : Nat → Int32} (C0 : lw_At p s m meth c b L xs) (hLN : L ≤ 3584) {A : Nat → Prop} (hA : ∀ q : Nat, s.heap.size ≤ q → A q) (hbA : ¬ A b) {D : va_G} {cI cB cZ : ClassId} {zz qq vv : Nat} {bt : Nat → Int32} {g g2 : Nat → Nat} (hK : KK D cI cB cZ s) (hXS : XS D zz qq vv bt A s s.heap) {ad : Nat → Nat → Nat} {cn : Nat → Nat} {In : Nat → Int32} {Fn : Nat → Nat → Int32} {c3 : Nat → Nat} {I3 : Nat → Int32} {F3 : Nat → Nat → Int32} (hI : IX ad cn Fn) (hM : IMM c3 F3) (hR : RR cn Fn c3 F3) {H : Heap} {locs : List Loc} (hP : va_P D vwCl (wX cI (D.1 99) zz g ad cn In Fn ++ wM cI cB cZ g2 c3 I3 F3) H) (hD : va_D A (wX cI (D.1 99) zz g ad cn In Fn ++ wM cI cB cZ g2 c3 I3 F3)) (hS : va_S A s.heap H locs) {K N i : Nat} (hi : i + 7 ≤ L) (hKN : K + 8 ≤ 600000 ∧ N + 240 ≤ 7302250) {ls : Array Slot} (hl : lv_has ls 4 [(0, .ref b), (1, .ref (g 0)), (2, .ref (g2 100)), (3, .int (nI i))]) (kk : ∀ (ad : Nat → Nat → Nat) (cn : Nat → Nat) (In : Nat → Int32) (Fn : Nat → Nat → Int32) (c3 : Nat → Nat) (I3 : Nat → Int32) (F3 : Nat → Nat → Int32) (H : Heap) (locs : List Loc), IX ad cn Fn → IMM c3 F3 → RR cn Fn c3 F3 → va_P D vwCl (wX cI (D.1 99) zz g ad cn In Fn ++ wM cI cB cZ g2 c3 I3 F3) H → va_D A (wX cI (D.1 99) zz g ad cn In Fn ++ wM cI cB cZ g2 c3 I3 F3) → va_S A s.heap H locs → ∀ ls : Array Slot, lv_has ls 4 [(0, .ref b), (1, .ref (g 0)), (2, .ref (g2 100)), (3, .int (nI i))] → W p l e room_1 s m #[Value.ref b] below meth c H locs (K + 8) (N + 240) (lw_Z below #[Value.ref b] s) (F0 m 2269 ls [])) : W p l e room_1 s m #[Value.ref b] below meth c H locs K N (lw_Z below #[Value.ref b] s) (F0 m 1085 ls []) := by
  obtain ⟨hx, hb, hr, hml, hown, hts, hX, hbl, hlocks, hgv⟩ := id C0
  have S : SF p m c code 4 s #[Value.ref b] RL := ⟨hx, hb, hml, hown, fun w h => hts w (wT_lw h)⟩
  refine lv_aload_n hx hb dL_law_1085 rfl (lvA1 hl) ?_
  refine lv_aload_n hx hb dL_law_1086 rfl (lvA0 hl) ?_
  refine lv_iload_n hx hb dL_law_1087 rfl (lvA3 hl) ?_
  refine lv_iconst (v := 1) hx hb dL_law_1088 kic_1 ?_
  refine lv_iadd hx hb dL_law_1089 ?_
  refine lv_topi (fun y_1 ey_1 => ?_)
  obtain rfl : y_1 = nI (i + 1) := ey_1.trans (nI_add i 1)
  refine va_sld hx hb hX hbl hbA hS (vp_in_nI (by omega) (by omega)) dL_law_1090 ?_
  refine lv_topi (fun y_2 ey_2 => ?_)
  obtain rfl : y_2 = xs (nI (i + 1)).toNatClampNeg := ey_2
  refine lv_aload_n hx hb dL_law_1091 rfl (lvA0 hl) ?_
  refine lv_iload_n hx hb dL_law_1092 rfl (lvA3 hl) ?_
  refine lv_iconst (v := 2) hx hb dL_law_1093 kic_2 ?_
  refine lv_iadd hx hb dL_law_1094 ?_
  refine lv_topi (fun y_3 ey_3 => ?_)
  obtain rfl : y_3 = nI (i + 2) := ey_3.trans (nI_add i 2)
  refine va_sld hx hb hX hbl hbA hS (vp_in_nI (by omega) (by omega)) dL_law_1095 ?_
  refine lv_topi (fun y_4 ey_4 => ?_)
  obtain rfl : y_4 = xs (nI (i + 2)).toNatClampNeg := ey_4
  have hFc := free_all (exD hD) hS hA
  refine va_calli (runV_xa (As := [.int (xs (nI (i + 1)).toNatClampNeg), .int (xs (nI (i + 2)).toNatClampNeg)]) (rest := []) S (q_Xthefts l D cI cB cZ zz qq vv bt g ad cn In Fn (xs (nI (i + 1)).toNatClampNeg) (xs (nI (i + 2)).toNatClampNeg) H.size hI.1) kV_RL_116 hK hXS hS hFc (exP hP) (exD hD) 0 xo_0 rfl rfl ⟨Nat.le_of_ble_eq_true rfl, Nat.le_of_ble_eq_true rfl⟩ ⟨(by show K + 0 ≤ 600000; omega), (by show N + 0 ≤ 7302250; omega)⟩ rfl hl.1 rfl (Nat.le_of_ble_eq_true rfl) dL_law_1096) hS (fun q _ h => hFc q h) hFc (fun r4 u t H1 locs ht hvm w4 hB1 hz1 hk1 hS => ?_)
  obtain ⟨c4, I4, F4⟩ := u
  obtain ⟨hP1, hD1⟩ := hB1
  rw [ht] at hP1
  obtain ⟨hP, hD⟩ := exjoinL hP hD hk1 hFc hP1 hD1
  generalize H1 = H at hP hS ⊢
  have hd4 := w4.1.1
  have hf4 := w4.1.2.2
  have hI := IX.fr hI w4.1 w4.2.1 (by decide) (by decide)
  have hR := RR.fx hR hd4 hf4 (by decide) (by decide)
  refine lv_pop hx hb dL_law_1099 rfl ?_
  refine lv_aload_n hx hb dL_law_1100 rfl (lvA2 hl) ?_
  refine lv_aload_n hx hb dL_law_1101 rfl (lvA0 hl) ?_
  refine lv_iload_n hx hb dL_law_1102 rfl (lvA3 hl) ?_
  refine lv_iconst (v := 1) hx hb dL_law_1103 kic_1 ?_
  refine lv_iadd hx hb dL_law_1104 ?_
  refine lv_topi (fun y_6 ey_6 => ?_)
  obtain rfl : y_6 = nI (i + 1) := ey_6.trans (nI_add i 1)
  refine va_sld hx hb hX hbl hbA hS (vp_in_nI (by omega) (by omega)) dL_law_1105 ?_
  refine lv_topi (fun y_7 ey_7 => ?_)
  obtain rfl : y_7 = xs (nI (i + 1)).toNatClampNeg := ey_7
  refine lv_aload_n hx hb dL_law_1106 rfl (lvA0 hl) ?_
  refine lv_iload_n hx hb dL_law_1107 rfl (lvA3 hl) ?_
  refine lv_iconst (v := 2) hx hb dL_law_1108 kic_2 ?_
  refine lv_iadd hx hb dL_law_1109 ?_
  refine lv_topi (fun y_8 ey_8 => ?_)
  obtain rfl : y_8 = nI (i + 2) := ey_8.trans (nI_add i 2)
  refine va_sld hx hb hX hbl hbA hS (vp_in_nI (by omega) (by omega)) dL_law_1110 ?_
  refine lv_topi (fun y_9 ey_9 => ?_)
  obtain rfl : y_9 = xs (nI (i + 2)).toNatClampNeg := ey_9
  have hFc := free_all (exDr hD) hS hA
  refine va_calli (runV_a (As := [.int (xs (nI (i + 1)).toNatClampNeg), .int (xs (nI (i + 2)).toNatClampNeg)]) (rest := []) S (q_thefts l D cI cB cZ g2 c3 I3 F3 (xs (nI (i + 1)).toNatClampNeg) (xs (nI (i + 2)).toNatClampNeg) H.size hM.1) kV_RL_119 hK (exPr hP) (exDr hD) 0 rfl rfl rfl ⟨Nat.le_of_ble_eq_true rfl, Nat.le_of_ble_eq_true rfl⟩ ⟨(by show K + 0 ≤ 600000; omega), (by show N + 0 ≤ 7302250; omega)⟩ rfl hl.1 rfl (Nat.le_of_ble_eq_true rfl) dL_law_1111) hS (fun q _ h => hFc q h) hFc (fun r9 u t H1 locs ht hvm w9 hB1 hz1 hk1 hS => ?_)
  obtain ⟨c9, I9, F9⟩ := u
  obtain ⟨hP1, hD1⟩ := hB1
  rw [ht] at hP1
  obtain ⟨hP, hD⟩ := exjoin hP hD hk1 hFc hP1 hD1
  generalize H1 = H at hP hS ⊢
  obtain ⟨hM, hd9, hf9⟩ := imm_thefts hM w9
  have hR := RR.fm hR hd9 hf9 (by decide) (by decide)
  refine lv_pop hx hb dL_law_1114 rfl ?_
  refine lv_goto (tgt := 2269) hx hb dL_law_1115 rfl ?_
  refine W.widen (k := K + 8) (n := N + 240) (by omega) (by omega) ?_
  exact kk _ _ _ _ _ _ _ _ _ hI hM hR hP hD hS ls hl
set_option maxRecDepth 100000 in
set_option maxHeartbeats 4000000 in
theorem lawc_24 {p : Program} {l : Launch} {e : Env} {s : State} {m : MethodId} {below : List Frame} {meth : Method} {c : Code} {b L : Nat} {xs : Nat → Int32} (C0 : lw_At p s m meth c b L xs) (hLN : L ≤ 3584) {A : Nat → Prop} (hA : ∀ q : Nat, s.heap.size ≤ q → A q) (hbA : ¬ A b) {D : va_G} {cI cB cZ : ClassId} {zz qq vv : Nat} {bt : Nat → Int32} {g g2 : Nat → Nat} (hK : KK D cI cB cZ s) (hXS : XS D zz qq vv bt A s s.heap) {ad : Nat → Nat → Nat} {cn : Nat → Nat} {In : Nat → Int32} {Fn : Nat → Nat → Int32} {c3 : Nat → Nat} {I3 : Nat → Int32} {F3 : Nat → Nat → Int32} (hI : IX ad cn Fn) (hM : IMM c3 F3) (hR : RR cn Fn c3 F3) {H : Heap} {locs : List Loc} (hP : va_P D vwCl (wX cI (D.1 99) zz g ad cn In Fn ++ wM cI cB cZ g2 c3 I3 F3) H) (hD : va_D A (wX cI (D.1 99) zz g ad cn In Fn ++ wM cI cB cZ g2 c3 I3 F3)) (hS : va_S A s.heap H locs) {K N i : Nat} (hi : i + 7 ≤ L) (hKN : K + 8 ≤ 600000 ∧ N + 240 ≤ 7302250) {ls : Array Slot} (hl : lv_has ls 4 [(0, .ref b), (1, .ref (g 0)), (2, .ref (g2 100)), (3, .int (nI i))]) (kk : ∀ (ad : Nat → Nat → Nat) (cn : Nat → Nat) (In : Nat → Int32) (Fn : Nat → Nat → Int32) (c3 : Nat → Nat) (I3 : Nat → Int32) (F3 : Nat → Nat → Int32) (H : Heap) (locs : List Loc), IX ad cn Fn → IMM c3 F3 → RR cn Fn c3 F3 → va_P D vwCl (wX cI (D.1 99) zz g ad cn In Fn ++ wM cI cB cZ g2 c3 I3 F3) H → va_D A (wX cI (D.1 99) zz g ad cn In Fn ++ wM cI cB cZ g2 c3 I3 F3) → va_S A s.heap H locs → ∀ ls : Array Slot, lv_has ls 4 [(0, .ref b), (1, .ref (g 0)), (2, .ref (g2 100)), (3, .int (nI i))] → W p l e room_1 s m #[Value.ref b] below meth c H locs (K + 8) (N + 240) (lw_Z below #[Value.ref b] s) (F0 m 2269 ls [])) : W p l e room_1 s m #[Value.ref b] below meth c H locs K N (lw_Z below #[Value.ref b] s) (F0 m 1118 ls []) := by
  obtain ⟨hx, hb, hr, hml, hown, hts, hX, hbl, hlocks, hgv⟩ := id C0
  have S : SF p m c code 4 s #[Value.ref b] RL := ⟨hx, hb, hml, hown, fun w h => hts w (wT_lw h)⟩
  refine lv_aload_n hx hb dL_law_1118 rfl (lvA1 hl) ?_
  refine lv_aload_n hx hb dL_law_1119 rfl (lvA0 hl) ?_
  refine lv_iload_n hx hb dL_law_1120 rfl (lvA3 hl) ?_
  refine lv_iconst (v := 1) hx hb dL_law_1121 kic_1 ?_
  refine lv_iadd hx hb dL_law_1122 ?_
  refine lv_topi (fun y_1 ey_1 => ?_)
  obtain rfl : y_1 = nI (i + 1) := ey_1.trans (nI_add i 1)
  refine va_sld hx hb hX hbl hbA hS (vp_in_nI (by omega) (by omega)) dL_law_1123 ?_
  refine lv_topi (fun y_2 ey_2 => ?_)
  obtain rfl : y_2 = xs (nI (i + 1)).toNatClampNeg := ey_2
  refine lv_aload_n hx hb dL_law_1124 rfl (lvA0 hl) ?_
  refine lv_iload_n hx hb dL_law_1125 rfl (lvA3 hl) ?_
  refine lv_iconst (v := 2) hx hb dL_law_1126 kic_2 ?_
  refine lv_iadd hx hb dL_law_1127 ?_
  refine lv_topi (fun y_3 ey_3 => ?_)
  obtain rfl : y_3 = nI (i + 2) := ey_3.trans (nI_add i 2)
  refine va_sld hx hb hX hbl hbA hS (vp_in_nI (by omega) (by omega)) dL_law_1128 ?_
  refine lv_topi (fun y_4 ey_4 => ?_)
  obtain rfl : y_4 = xs (nI (i + 2)).toNatClampNeg := ey_4
  refine vp_callSi (runV_rxa (As := [.int (xs (nI (i + 1)).toNatClampNeg), .int (xs (nI (i + 2)).toNatClampNeg)]) (rest := []) S (q_Xlock l D cI cB cZ zz qq vv bt g ad cn In Fn (xs (nI (i + 1)).toNatClampNeg) (xs (nI (i + 2)).toNatClampNeg) hI.1) kV_RL_120 hK hXS hS (exP hP) 0 xo_0 rfl rfl ⟨Nat.le_of_ble_eq_true rfl, Nat.le_of_ble_eq_true rfl⟩ ⟨(by show K + 0 ≤ 600000; omega), (by show N + 0 ≤ 7302250; omega)⟩ rfl hl.1 rfl (Nat.le_of_ble_eq_true rfl) dL_law_1129) (fun r4 w4 => ?_)
  refine lv_pop hx hb dL_law_1132 rfl ?_
  refine lv_aload_n hx hb dL_law_1133 rfl (lvA2 hl) ?_
  refine lv_aload_n hx hb dL_law_1134 rfl (lvA0 hl) ?_
  refine lv_iload_n hx hb dL_law_1135 rfl (lvA3 hl) ?_
  refine lv_iconst (v := 1) hx hb dL_law_1136 kic_1 ?_
  refine lv_iadd hx hb dL_law_1137 ?_
  refine lv_topi (fun y_6 ey_6 => ?_)
  obtain rfl : y_6 = nI (i + 1) := ey_6.trans (nI_add i 1)
  refine va_sld hx hb hX hbl hbA hS (vp_in_nI (by omega) (by omega)) dL_law_1138 ?_
  refine lv_topi (fun y_7 ey_7 => ?_)
  obtain rfl : y_7 = xs (nI (i + 1)).toNatClampNeg := ey_7
  refine lv_aload_n hx hb dL_law_1139 rfl (lvA0 hl) ?_
  refine lv_iload_n hx hb dL_law_1140 rfl (lvA3 hl) ?_
  refine lv_iconst (v := 2) hx hb dL_law_1141 kic_2 ?_
  refine lv_iadd hx hb dL_law_1142 ?_
  refine lv_topi (fun y_8 ey_8 => ?_)
  obtain rfl : y_8 = nI (i + 2) := ey_8.trans (nI_add i 2)
  refine va_sld hx hb hX hbl hbA hS (vp_in_nI (by omega) (by omega)) dL_law_1143 ?_
  refine lv_topi (fun y_9 ey_9 => ?_)
  obtain rfl : y_9 = xs (nI (i + 2)).toNatClampNeg := ey_9
  refine vp_callSi (runV_ra (As := [.int (xs (nI (i + 1)).toNatClampNeg), .int (xs (nI (i + 2)).toNatClampNeg)]) (rest := []) S (q_lock l D cI cB cZ g2 c3 I3 F3 (xs (nI (i + 1)).toNatClampNeg) (xs (nI (i + 2)).toNatClampNeg) hM.1) kV_RL_123 hK (exPr hP) 0 rfl rfl rfl ⟨Nat.le_of_ble_eq_true rfl, Nat.le_of_ble_eq_true rfl⟩ ⟨(by show K + 0 ≤ 600000; omega), (by show N + 0 ≤ 7302250; omega)⟩ rfl hl.1 rfl (Nat.le_of_ble_eq_true rfl) dL_law_1144) (fun r9 w9 => ?_)
  refine lv_pop hx hb dL_law_1147 rfl ?_
  refine lv_goto (tgt := 2269) hx hb dL_law_1148 rfl ?_
  refine W.widen (k := K + 8) (n := N + 240) (by omega) (by omega) ?_
  exact kk _ _ _ _ _ _ _ _ _ hI hM hR hP hD hS ls hl
set_option maxRecDepth 100000 in
set_option maxHeartbeats 4000000 in
theorem lawc_25 {p : Program} {l : Launch} {e : Env} {s : State} {m : MethodId} {below : List Frame} {meth : Method} {c : Code} {b L : Nat} {xs : Nat → Int32} (C0 : lw_At p s m meth c b L xs) (hLN : L ≤ 3584) {A : Nat → Prop} (hA : ∀ q : Nat, s.heap.size ≤ q → A q) (hbA : ¬ A b) {D : va_G} {cI cB cZ : ClassId} {zz qq vv : Nat} {bt : Nat → Int32} {g g2 : Nat → Nat} (hK : KK D cI cB cZ s) (hXS : XS D zz qq vv bt A s s.heap) {ad : Nat → Nat → Nat} {cn : Nat → Nat} {In : Nat → Int32} {Fn : Nat → Nat → Int32} {c3 : Nat → Nat} {I3 : Nat → Int32} {F3 : Nat → Nat → Int32} (hI : IX ad cn Fn) (hM : IMM c3 F3) (hR : RR cn Fn c3 F3) {H : Heap} {locs : List Loc} (hP : va_P D vwCl (wX cI (D.1 99) zz g ad cn In Fn ++ wM cI cB cZ g2 c3 I3 F3) H) (hD : va_D A (wX cI (D.1 99) zz g ad cn In Fn ++ wM cI cB cZ g2 c3 I3 F3)) (hS : va_S A s.heap H locs) {K N i : Nat} (hi : i + 7 ≤ L) (hKN : K + 8 ≤ 600000 ∧ N + 240 ≤ 7302250) {ls : Array Slot} (hl : lv_has ls 4 [(0, .ref b), (1, .ref (g 0)), (2, .ref (g2 100)), (3, .int (nI i))]) (kk : ∀ (ad : Nat → Nat → Nat) (cn : Nat → Nat) (In : Nat → Int32) (Fn : Nat → Nat → Int32) (c3 : Nat → Nat) (I3 : Nat → Int32) (F3 : Nat → Nat → Int32) (H : Heap) (locs : List Loc), IX ad cn Fn → IMM c3 F3 → RR cn Fn c3 F3 → va_P D vwCl (wX cI (D.1 99) zz g ad cn In Fn ++ wM cI cB cZ g2 c3 I3 F3) H → va_D A (wX cI (D.1 99) zz g ad cn In Fn ++ wM cI cB cZ g2 c3 I3 F3) → va_S A s.heap H locs → ∀ ls : Array Slot, lv_has ls 4 [(0, .ref b), (1, .ref (g 0)), (2, .ref (g2 100)), (3, .int (nI i))] → W p l e room_1 s m #[Value.ref b] below meth c H locs (K + 8) (N + 240) (lw_Z below #[Value.ref b] s) (F0 m 2269 ls [])) : W p l e room_1 s m #[Value.ref b] below meth c H locs K N (lw_Z below #[Value.ref b] s) (F0 m 1151 ls []) := by
  obtain ⟨hx, hb, hr, hml, hown, hts, hX, hbl, hlocks, hgv⟩ := id C0
  have S : SF p m c code 4 s #[Value.ref b] RL := ⟨hx, hb, hml, hown, fun w h => hts w (wT_lw h)⟩
  refine lv_aload_n hx hb dL_law_1151 rfl (lvA1 hl) ?_
  refine lv_aload_n hx hb dL_law_1152 rfl (lvA0 hl) ?_
  refine lv_iload_n hx hb dL_law_1153 rfl (lvA3 hl) ?_
  refine lv_iconst (v := 1) hx hb dL_law_1154 kic_1 ?_
  refine lv_iadd hx hb dL_law_1155 ?_
  refine lv_topi (fun y_1 ey_1 => ?_)
  obtain rfl : y_1 = nI (i + 1) := ey_1.trans (nI_add i 1)
  refine va_sld hx hb hX hbl hbA hS (vp_in_nI (by omega) (by omega)) dL_law_1156 ?_
  refine lv_topi (fun y_2 ey_2 => ?_)
  obtain rfl : y_2 = xs (nI (i + 1)).toNatClampNeg := ey_2
  refine lv_aload_n hx hb dL_law_1157 rfl (lvA0 hl) ?_
  refine lv_iload_n hx hb dL_law_1158 rfl (lvA3 hl) ?_
  refine lv_iconst (v := 2) hx hb dL_law_1159 kic_2 ?_
  refine lv_iadd hx hb dL_law_1160 ?_
  refine lv_topi (fun y_3 ey_3 => ?_)
  obtain rfl : y_3 = nI (i + 2) := ey_3.trans (nI_add i 2)
  refine va_sld hx hb hX hbl hbA hS (vp_in_nI (by omega) (by omega)) dL_law_1161 ?_
  refine lv_topi (fun y_4 ey_4 => ?_)
  obtain rfl : y_4 = xs (nI (i + 2)).toNatClampNeg := ey_4
  have hFc := free_all (exD hD) hS hA
  refine va_calli (runV_xa (As := [.int (xs (nI (i + 1)).toNatClampNeg), .int (xs (nI (i + 2)).toNatClampNeg)]) (rest := []) S (q_Xsewer l D cI cB cZ zz qq vv bt g ad cn In Fn (xs (nI (i + 1)).toNatClampNeg) (xs (nI (i + 2)).toNatClampNeg) H.size hI.1) kV_RL_124 hK hXS hS hFc (exP hP) (exD hD) 0 xo_0 rfl rfl ⟨Nat.le_of_ble_eq_true rfl, Nat.le_of_ble_eq_true rfl⟩ ⟨(by show K + 2 ≤ 600000; omega), (by show N + 103 ≤ 7302250; omega)⟩ rfl hl.1 rfl (Nat.le_of_ble_eq_true rfl) dL_law_1162) hS (fun q _ h => hFc q h) hFc (fun r4 u t H1 locs ht hvm w4 hB1 hz1 hk1 hS => ?_)
  obtain ⟨a4, c4, I4, F4⟩ := u
  obtain ⟨hP1, hD1⟩ := hB1
  rw [ht] at hP1
  obtain ⟨hP, hD⟩ := exjoinL hP hD hk1 hFc hP1 hD1
  generalize H1 = H at hP hS ⊢
  obtain ⟨hI, hd4, hf4⟩ := ix_sewer hI w4
  have hR := RR.fx hR hd4 hf4 (by decide) (by decide)
  refine lv_pop hx hb dL_law_1165 rfl ?_
  refine lv_aload_n hx hb dL_law_1166 rfl (lvA2 hl) ?_
  refine lv_aload_n hx hb dL_law_1167 rfl (lvA0 hl) ?_
  refine lv_iload_n hx hb dL_law_1168 rfl (lvA3 hl) ?_
  refine lv_iconst (v := 1) hx hb dL_law_1169 kic_1 ?_
  refine lv_iadd hx hb dL_law_1170 ?_
  refine lv_topi (fun y_6 ey_6 => ?_)
  obtain rfl : y_6 = nI (i + 1) := ey_6.trans (nI_add i 1)
  refine va_sld hx hb hX hbl hbA hS (vp_in_nI (by omega) (by omega)) dL_law_1171 ?_
  refine lv_topi (fun y_7 ey_7 => ?_)
  obtain rfl : y_7 = xs (nI (i + 1)).toNatClampNeg := ey_7
  refine lv_aload_n hx hb dL_law_1172 rfl (lvA0 hl) ?_
  refine lv_iload_n hx hb dL_law_1173 rfl (lvA3 hl) ?_
  refine lv_iconst (v := 2) hx hb dL_law_1174 kic_2 ?_
  refine lv_iadd hx hb dL_law_1175 ?_
  refine lv_topi (fun y_8 ey_8 => ?_)
  obtain rfl : y_8 = nI (i + 2) := ey_8.trans (nI_add i 2)
  refine va_sld hx hb hX hbl hbA hS (vp_in_nI (by omega) (by omega)) dL_law_1176 ?_
  refine lv_topi (fun y_9 ey_9 => ?_)
  obtain rfl : y_9 = xs (nI (i + 2)).toNatClampNeg := ey_9
  have hFc := free_all (exDr hD) hS hA
  refine va_calli (runV_a (As := [.int (xs (nI (i + 1)).toNatClampNeg), .int (xs (nI (i + 2)).toNatClampNeg)]) (rest := []) S (q_sewer l D cI cB cZ g2 c3 I3 F3 (xs (nI (i + 1)).toNatClampNeg) (xs (nI (i + 2)).toNatClampNeg) H.size hM.1) kV_RL_127 hK (exPr hP) (exDr hD) 0 rfl rfl rfl ⟨Nat.le_of_ble_eq_true rfl, Nat.le_of_ble_eq_true rfl⟩ ⟨(by show K + 2 + 0 ≤ 600000; omega), (by show N + 103 + 0 ≤ 7302250; omega)⟩ rfl hl.1 rfl (Nat.le_of_ble_eq_true rfl) dL_law_1177) hS (fun q _ h => hFc q h) hFc (fun r9 u t H1 locs ht hvm w9 hB1 hz1 hk1 hS => ?_)
  obtain ⟨c9, I9, F9⟩ := u
  obtain ⟨hP1, hD1⟩ := hB1
  rw [ht] at hP1
  obtain ⟨hP, hD⟩ := exjoin hP hD hk1 hFc hP1 hD1
  generalize H1 = H at hP hS ⊢
  obtain ⟨hM, hd9, hf9⟩ := imm_sewer hM w9
  have hR := RR.fm hR hd9 hf9 (by decide) (by decide)
  refine lv_pop hx hb dL_law_1180 rfl ?_
  refine lv_goto (tgt := 2269) hx hb dL_law_1181 rfl ?_
  refine W.widen (k := K + 8) (n := N + 240) (by omega) (by omega) ?_
  exact kk _ _ _ _ _ _ _ _ _ hI hM hR hP hD hS ls hl
set_option maxRecDepth 100000 in
set_option maxHeartbeats 4000000 in
theorem lawc_26 {p : Program} {l : Launch} {e : Env} {s : State} {m : MethodId} {below : List Frame} {meth : Method} {c : Code} {b L : Nat} {xs : Nat → Int32} (C0 : lw_At p s m meth c b L xs) (hLN : L ≤ 3584) {A : Nat → Prop} (hA : ∀ q : Nat, s.heap.size ≤ q → A q) (hbA : ¬ A b) {D : va_G} {cI cB cZ : ClassId} {zz qq vv : Nat} {bt : Nat → Int32} {g g2 : Nat → Nat} (hK : KK D cI cB cZ s) (hXS : XS D zz qq vv bt A s s.heap) {ad : Nat → Nat → Nat} {cn : Nat → Nat} {In : Nat → Int32} {Fn : Nat → Nat → Int32} {c3 : Nat → Nat} {I3 : Nat → Int32} {F3 : Nat → Nat → Int32} (hI : IX ad cn Fn) (hM : IMM c3 F3) (hR : RR cn Fn c3 F3) {H : Heap} {locs : List Loc} (hP : va_P D vwCl (wX cI (D.1 99) zz g ad cn In Fn ++ wM cI cB cZ g2 c3 I3 F3) H) (hD : va_D A (wX cI (D.1 99) zz g ad cn In Fn ++ wM cI cB cZ g2 c3 I3 F3)) (hS : va_S A s.heap H locs) {K N i : Nat} (hi : i + 7 ≤ L) (hKN : K + 8 ≤ 600000 ∧ N + 240 ≤ 7302250) {ls : Array Slot} (hl : lv_has ls 4 [(0, .ref b), (1, .ref (g 0)), (2, .ref (g2 100)), (3, .int (nI i))]) (kk : ∀ (ad : Nat → Nat → Nat) (cn : Nat → Nat) (In : Nat → Int32) (Fn : Nat → Nat → Int32) (c3 : Nat → Nat) (I3 : Nat → Int32) (F3 : Nat → Nat → Int32) (H : Heap) (locs : List Loc), IX ad cn Fn → IMM c3 F3 → RR cn Fn c3 F3 → va_P D vwCl (wX cI (D.1 99) zz g ad cn In Fn ++ wM cI cB cZ g2 c3 I3 F3) H → va_D A (wX cI (D.1 99) zz g ad cn In Fn ++ wM cI cB cZ g2 c3 I3 F3) → va_S A s.heap H locs → ∀ ls : Array Slot, lv_has ls 4 [(0, .ref b), (1, .ref (g 0)), (2, .ref (g2 100)), (3, .int (nI i))] → W p l e room_1 s m #[Value.ref b] below meth c H locs (K + 8) (N + 240) (lw_Z below #[Value.ref b] s) (F0 m 2269 ls [])) : W p l e room_1 s m #[Value.ref b] below meth c H locs K N (lw_Z below #[Value.ref b] s) (F0 m 1184 ls []) := by
  obtain ⟨hx, hb, hr, hml, hown, hts, hX, hbl, hlocks, hgv⟩ := id C0
  have S : SF p m c code 4 s #[Value.ref b] RL := ⟨hx, hb, hml, hown, fun w h => hts w (wT_lw h)⟩
  refine lv_aload_n hx hb dL_law_1184 rfl (lvA1 hl) ?_
  refine lv_aload_n hx hb dL_law_1185 rfl (lvA0 hl) ?_
  refine lv_iload_n hx hb dL_law_1186 rfl (lvA3 hl) ?_
  refine lv_iconst (v := 1) hx hb dL_law_1187 kic_1 ?_
  refine lv_iadd hx hb dL_law_1188 ?_
  refine lv_topi (fun y_1 ey_1 => ?_)
  obtain rfl : y_1 = nI (i + 1) := ey_1.trans (nI_add i 1)
  refine va_sld hx hb hX hbl hbA hS (vp_in_nI (by omega) (by omega)) dL_law_1189 ?_
  refine lv_topi (fun y_2 ey_2 => ?_)
  obtain rfl : y_2 = xs (nI (i + 1)).toNatClampNeg := ey_2
  have hFc := free_all (exD hD) hS hA
  refine va_calli (runV_xa (As := [.int (xs (nI (i + 1)).toNatClampNeg)]) (rest := []) S (q_Xblocked l D cI cB cZ zz qq vv bt g ad cn In Fn (xs (nI (i + 1)).toNatClampNeg) H.size hI.1) kV_RL_128 hK hXS hS hFc (exP hP) (exD hD) 0 xo_0 rfl rfl ⟨Nat.le_of_ble_eq_true rfl, Nat.le_of_ble_eq_true rfl⟩ ⟨(by show K + 0 ≤ 600000; omega), (by show N + 0 ≤ 7302250; omega)⟩ rfl hl.1 rfl (Nat.le_of_ble_eq_true rfl) dL_law_1190) hS (fun q _ h => hFc q h) hFc (fun r2 u t H1 locs ht hvm w2 hB1 hz1 hk1 hS => ?_)
  obtain ⟨c2, I2, F2⟩ := u
  obtain ⟨hP1, hD1⟩ := hB1
  rw [ht] at hP1
  obtain ⟨hP, hD⟩ := exjoinL hP hD hk1 hFc hP1 hD1
  generalize H1 = H at hP hS ⊢
  have hd2 := w2.1.1
  have hf2 := w2.1.2.2
  have hI := IX.fr hI w2.1 w2.2.1 (by decide) (by decide)
  have hR := RR.fx hR hd2 hf2 (by decide) (by decide)
  refine lv_pop hx hb dL_law_1193 rfl ?_
  refine lv_aload_n hx hb dL_law_1194 rfl (lvA2 hl) ?_
  refine lv_aload_n hx hb dL_law_1195 rfl (lvA0 hl) ?_
  refine lv_iload_n hx hb dL_law_1196 rfl (lvA3 hl) ?_
  refine lv_iconst (v := 1) hx hb dL_law_1197 kic_1 ?_
  refine lv_iadd hx hb dL_law_1198 ?_
  refine lv_topi (fun y_4 ey_4 => ?_)
  obtain rfl : y_4 = nI (i + 1) := ey_4.trans (nI_add i 1)
  refine va_sld hx hb hX hbl hbA hS (vp_in_nI (by omega) (by omega)) dL_law_1199 ?_
  refine lv_topi (fun y_5 ey_5 => ?_)
  obtain rfl : y_5 = xs (nI (i + 1)).toNatClampNeg := ey_5
  have hFc := free_all (exDr hD) hS hA
  refine va_calli (runV_a (As := [.int (xs (nI (i + 1)).toNatClampNeg)]) (rest := []) S (q_blocked l D cI cB cZ g2 c3 I3 F3 (xs (nI (i + 1)).toNatClampNeg) H.size hM.1) kV_RL_131 hK (exPr hP) (exDr hD) 0 rfl rfl rfl ⟨Nat.le_of_ble_eq_true rfl, Nat.le_of_ble_eq_true rfl⟩ ⟨(by show K + 0 ≤ 600000; omega), (by show N + 0 ≤ 7302250; omega)⟩ rfl hl.1 rfl (Nat.le_of_ble_eq_true rfl) dL_law_1200) hS (fun q _ h => hFc q h) hFc (fun r5 u t H1 locs ht hvm w5 hB1 hz1 hk1 hS => ?_)
  obtain ⟨c5, I5, F5⟩ := u
  obtain ⟨hP1, hD1⟩ := hB1
  rw [ht] at hP1
  obtain ⟨hP, hD⟩ := exjoin hP hD hk1 hFc hP1 hD1
  generalize H1 = H at hP hS ⊢
  obtain ⟨hM, hd5, hf5⟩ := imm_blocked hM w5
  have hR := RR.fm hR hd5 hf5 (by decide) (by decide)
  refine lv_pop hx hb dL_law_1203 rfl ?_
  refine lv_goto (tgt := 2269) hx hb dL_law_1204 rfl ?_
  refine W.widen (k := K + 8) (n := N + 240) (by omega) (by omega) ?_
  exact kk _ _ _ _ _ _ _ _ _ hI hM hR hP hD hS ls hl
set_option maxRecDepth 100000 in
set_option maxHeartbeats 4000000 in
theorem lawc_27 {p : Program} {l : Launch} {e : Env} {s : State} {m : MethodId} {below : List Frame} {meth : Method} {c : Code} {b L : Nat} {xs : Nat → Int32} (C0 : lw_At p s m meth c b L xs) (hLN : L ≤ 3584) {A : Nat → Prop} (hA : ∀ q : Nat, s.heap.size ≤ q → A q) (hbA : ¬ A b) {D : va_G} {cI cB cZ : ClassId} {zz qq vv : Nat} {bt : Nat → Int32} {g g2 : Nat → Nat} (hK : KK D cI cB cZ s) (hXS : XS D zz qq vv bt A s s.heap) {ad : Nat → Nat → Nat} {cn : Nat → Nat} {In : Nat → Int32} {Fn : Nat → Nat → Int32} {c3 : Nat → Nat} {I3 : Nat → Int32} {F3 : Nat → Nat → Int32} (hI : IX ad cn Fn) (hM : IMM c3 F3) (hR : RR cn Fn c3 F3) {H : Heap} {locs : List Loc} (hP : va_P D vwCl (wX cI (D.1 99) zz g ad cn In Fn ++ wM cI cB cZ g2 c3 I3 F3) H) (hD : va_D A (wX cI (D.1 99) zz g ad cn In Fn ++ wM cI cB cZ g2 c3 I3 F3)) (hS : va_S A s.heap H locs) {K N i : Nat} (hi : i + 7 ≤ L) (hKN : K + 8 ≤ 600000 ∧ N + 240 ≤ 7302250) {ls : Array Slot} (hl : lv_has ls 4 [(0, .ref b), (1, .ref (g 0)), (2, .ref (g2 100)), (3, .int (nI i))]) (kk : ∀ (ad : Nat → Nat → Nat) (cn : Nat → Nat) (In : Nat → Int32) (Fn : Nat → Nat → Int32) (c3 : Nat → Nat) (I3 : Nat → Int32) (F3 : Nat → Nat → Int32) (H : Heap) (locs : List Loc), IX ad cn Fn → IMM c3 F3 → RR cn Fn c3 F3 → va_P D vwCl (wX cI (D.1 99) zz g ad cn In Fn ++ wM cI cB cZ g2 c3 I3 F3) H → va_D A (wX cI (D.1 99) zz g ad cn In Fn ++ wM cI cB cZ g2 c3 I3 F3) → va_S A s.heap H locs → ∀ ls : Array Slot, lv_has ls 4 [(0, .ref b), (1, .ref (g 0)), (2, .ref (g2 100)), (3, .int (nI i))] → W p l e room_1 s m #[Value.ref b] below meth c H locs (K + 8) (N + 240) (lw_Z below #[Value.ref b] s) (F0 m 2269 ls [])) : W p l e room_1 s m #[Value.ref b] below meth c H locs K N (lw_Z below #[Value.ref b] s) (F0 m 1207 ls []) := by
  obtain ⟨hx, hb, hr, hml, hown, hts, hX, hbl, hlocks, hgv⟩ := id C0
  have S : SF p m c code 4 s #[Value.ref b] RL := ⟨hx, hb, hml, hown, fun w h => hts w (wT_lw h)⟩
  refine lv_aload_n hx hb dL_law_1207 rfl (lvA1 hl) ?_
  refine lv_aload_n hx hb dL_law_1208 rfl (lvA0 hl) ?_
  refine lv_iload_n hx hb dL_law_1209 rfl (lvA3 hl) ?_
  refine lv_iconst (v := 1) hx hb dL_law_1210 kic_1 ?_
  refine lv_iadd hx hb dL_law_1211 ?_
  refine lv_topi (fun y_1 ey_1 => ?_)
  obtain rfl : y_1 = nI (i + 1) := ey_1.trans (nI_add i 1)
  refine va_sld hx hb hX hbl hbA hS (vp_in_nI (by omega) (by omega)) dL_law_1212 ?_
  refine lv_topi (fun y_2 ey_2 => ?_)
  obtain rfl : y_2 = xs (nI (i + 1)).toNatClampNeg := ey_2
  refine lv_aload_n hx hb dL_law_1213 rfl (lvA0 hl) ?_
  refine lv_iload_n hx hb dL_law_1214 rfl (lvA3 hl) ?_
  refine lv_iconst (v := 2) hx hb dL_law_1215 kic_2 ?_
  refine lv_iadd hx hb dL_law_1216 ?_
  refine lv_topi (fun y_3 ey_3 => ?_)
  obtain rfl : y_3 = nI (i + 2) := ey_3.trans (nI_add i 2)
  refine va_sld hx hb hX hbl hbA hS (vp_in_nI (by omega) (by omega)) dL_law_1217 ?_
  refine lv_topi (fun y_4 ey_4 => ?_)
  obtain rfl : y_4 = xs (nI (i + 2)).toNatClampNeg := ey_4
  refine vp_callSi (runV_rxa (As := [.int (xs (nI (i + 1)).toNatClampNeg), .int (xs (nI (i + 2)).toNatClampNeg)]) (rest := []) S (q_Xbeside l D cI cB cZ zz qq vv bt g ad cn In Fn (xs (nI (i + 1)).toNatClampNeg) (xs (nI (i + 2)).toNatClampNeg) hI.1) kV_RL_132 hK hXS hS (exP hP) 0 xo_0 rfl rfl ⟨Nat.le_of_ble_eq_true rfl, Nat.le_of_ble_eq_true rfl⟩ ⟨(by show K + 0 ≤ 600000; omega), (by show N + 0 ≤ 7302250; omega)⟩ rfl hl.1 rfl (Nat.le_of_ble_eq_true rfl) dL_law_1218) (fun r4 w4 => ?_)
  refine lv_pop hx hb dL_law_1221 rfl ?_
  refine lv_aload_n hx hb dL_law_1222 rfl (lvA2 hl) ?_
  refine lv_aload_n hx hb dL_law_1223 rfl (lvA0 hl) ?_
  refine lv_iload_n hx hb dL_law_1224 rfl (lvA3 hl) ?_
  refine lv_iconst (v := 1) hx hb dL_law_1225 kic_1 ?_
  refine lv_iadd hx hb dL_law_1226 ?_
  refine lv_topi (fun y_6 ey_6 => ?_)
  obtain rfl : y_6 = nI (i + 1) := ey_6.trans (nI_add i 1)
  refine va_sld hx hb hX hbl hbA hS (vp_in_nI (by omega) (by omega)) dL_law_1227 ?_
  refine lv_topi (fun y_7 ey_7 => ?_)
  obtain rfl : y_7 = xs (nI (i + 1)).toNatClampNeg := ey_7
  refine lv_aload_n hx hb dL_law_1228 rfl (lvA0 hl) ?_
  refine lv_iload_n hx hb dL_law_1229 rfl (lvA3 hl) ?_
  refine lv_iconst (v := 2) hx hb dL_law_1230 kic_2 ?_
  refine lv_iadd hx hb dL_law_1231 ?_
  refine lv_topi (fun y_8 ey_8 => ?_)
  obtain rfl : y_8 = nI (i + 2) := ey_8.trans (nI_add i 2)
  refine va_sld hx hb hX hbl hbA hS (vp_in_nI (by omega) (by omega)) dL_law_1232 ?_
  refine lv_topi (fun y_9 ey_9 => ?_)
  obtain rfl : y_9 = xs (nI (i + 2)).toNatClampNeg := ey_9
  refine vp_callSi (runV_ra (As := [.int (xs (nI (i + 1)).toNatClampNeg), .int (xs (nI (i + 2)).toNatClampNeg)]) (rest := []) S (q_beside l D cI cB cZ g2 c3 I3 F3 (xs (nI (i + 1)).toNatClampNeg) (xs (nI (i + 2)).toNatClampNeg) hM.1) kV_RL_135 hK (exPr hP) 0 rfl rfl rfl ⟨Nat.le_of_ble_eq_true rfl, Nat.le_of_ble_eq_true rfl⟩ ⟨(by show K + 0 ≤ 600000; omega), (by show N + 0 ≤ 7302250; omega)⟩ rfl hl.1 rfl (Nat.le_of_ble_eq_true rfl) dL_law_1233) (fun r9 w9 => ?_)
  refine lv_pop hx hb dL_law_1236 rfl ?_
  refine lv_goto (tgt := 2269) hx hb dL_law_1237 rfl ?_
  refine W.widen (k := K + 8) (n := N + 240) (by omega) (by omega) ?_
  exact kk _ _ _ _ _ _ _ _ _ hI hM hR hP hD hS ls hl
set_option maxRecDepth 100000 in
set_option maxHeartbeats 4000000 in
theorem lawc_28 {p : Program} {l : Launch} {e : Env} {s : State} {m : MethodId} {below : List Frame} {meth : Method} {c : Code} {b L : Nat} {xs : Nat → Int32} (C0 : lw_At p s m meth c b L xs) (hLN : L ≤ 3584) {A : Nat → Prop} (hA : ∀ q : Nat, s.heap.size ≤ q → A q) (hbA : ¬ A b) {D : va_G} {cI cB cZ : ClassId} {zz qq vv : Nat} {bt : Nat → Int32} {g g2 : Nat → Nat} (hK : KK D cI cB cZ s) (hXS : XS D zz qq vv bt A s s.heap) {ad : Nat → Nat → Nat} {cn : Nat → Nat} {In : Nat → Int32} {Fn : Nat → Nat → Int32} {c3 : Nat → Nat} {I3 : Nat → Int32} {F3 : Nat → Nat → Int32} (hI : IX ad cn Fn) (hM : IMM c3 F3) (hR : RR cn Fn c3 F3) {H : Heap} {locs : List Loc} (hP : va_P D vwCl (wX cI (D.1 99) zz g ad cn In Fn ++ wM cI cB cZ g2 c3 I3 F3) H) (hD : va_D A (wX cI (D.1 99) zz g ad cn In Fn ++ wM cI cB cZ g2 c3 I3 F3)) (hS : va_S A s.heap H locs) {K N i : Nat} (hi : i + 7 ≤ L) (hKN : K + 8 ≤ 600000 ∧ N + 240 ≤ 7302250) {ls : Array Slot} (hl : lv_has ls 4 [(0, .ref b), (1, .ref (g 0)), (2, .ref (g2 100)), (3, .int (nI i))]) (kk : ∀ (ad : Nat → Nat → Nat) (cn : Nat → Nat) (In : Nat → Int32) (Fn : Nat → Nat → Int32) (c3 : Nat → Nat) (I3 : Nat → Int32) (F3 : Nat → Nat → Int32) (H : Heap) (locs : List Loc), IX ad cn Fn → IMM c3 F3 → RR cn Fn c3 F3 → va_P D vwCl (wX cI (D.1 99) zz g ad cn In Fn ++ wM cI cB cZ g2 c3 I3 F3) H → va_D A (wX cI (D.1 99) zz g ad cn In Fn ++ wM cI cB cZ g2 c3 I3 F3) → va_S A s.heap H locs → ∀ ls : Array Slot, lv_has ls 4 [(0, .ref b), (1, .ref (g 0)), (2, .ref (g2 100)), (3, .int (nI i))] → W p l e room_1 s m #[Value.ref b] below meth c H locs (K + 8) (N + 240) (lw_Z below #[Value.ref b] s) (F0 m 2269 ls [])) : W p l e room_1 s m #[Value.ref b] below meth c H locs K N (lw_Z below #[Value.ref b] s) (F0 m 1240 ls []) := by
  obtain ⟨hx, hb, hr, hml, hown, hts, hX, hbl, hlocks, hgv⟩ := id C0
  have S : SF p m c code 4 s #[Value.ref b] RL := ⟨hx, hb, hml, hown, fun w h => hts w (wT_lw h)⟩
  refine lv_aload_n hx hb dL_law_1240 rfl (lvA1 hl) ?_
  refine lv_aload_n hx hb dL_law_1241 rfl (lvA0 hl) ?_
  refine lv_iload_n hx hb dL_law_1242 rfl (lvA3 hl) ?_
  refine lv_iconst (v := 1) hx hb dL_law_1243 kic_1 ?_
  refine lv_iadd hx hb dL_law_1244 ?_
  refine lv_topi (fun y_1 ey_1 => ?_)
  obtain rfl : y_1 = nI (i + 1) := ey_1.trans (nI_add i 1)
  refine va_sld hx hb hX hbl hbA hS (vp_in_nI (by omega) (by omega)) dL_law_1245 ?_
  refine lv_topi (fun y_2 ey_2 => ?_)
  obtain rfl : y_2 = xs (nI (i + 1)).toNatClampNeg := ey_2
  refine lv_aload_n hx hb dL_law_1246 rfl (lvA0 hl) ?_
  refine lv_iload_n hx hb dL_law_1247 rfl (lvA3 hl) ?_
  refine lv_iconst (v := 2) hx hb dL_law_1248 kic_2 ?_
  refine lv_iadd hx hb dL_law_1249 ?_
  refine lv_topi (fun y_3 ey_3 => ?_)
  obtain rfl : y_3 = nI (i + 2) := ey_3.trans (nI_add i 2)
  refine va_sld hx hb hX hbl hbA hS (vp_in_nI (by omega) (by omega)) dL_law_1250 ?_
  refine lv_topi (fun y_4 ey_4 => ?_)
  obtain rfl : y_4 = xs (nI (i + 2)).toNatClampNeg := ey_4
  have hI0 := hI
  have hFc := free_all (exD hD) hS hA
  refine va_calli (runV_xa (As := [.int (xs (nI (i + 1)).toNatClampNeg), .int (xs (nI (i + 2)).toNatClampNeg)]) (rest := []) S (q_Edegrees l D cI cB cZ zz qq vv bt g ad cn In Fn (xs (nI (i + 1)).toNatClampNeg) (xs (nI (i + 2)).toNatClampNeg) H.size hI.1) kV_RL_136 hK hXS hS hFc (exP hP) (exD hD) 0 xo_0 rfl rfl ⟨Nat.le_of_ble_eq_true rfl, Nat.le_of_ble_eq_true rfl⟩ ⟨(by show K + 0 ≤ 600000; omega), (by show N + 0 ≤ 7302250; omega)⟩ rfl hl.1 rfl (Nat.le_of_ble_eq_true rfl) dL_law_1251) hS (fun q _ h => hFc q h) hFc (fun r4 u t H1 locs ht hvm w4 hB1 hz1 hk1 hS => ?_)
  obtain ⟨c4, I4, F4⟩ := u
  obtain ⟨hP1, hD1⟩ := hB1
  rw [ht] at hP1
  obtain ⟨hP, hD⟩ := exjoinL hP hD hk1 hFc hP1 hD1
  generalize H1 = H at hP hS ⊢
  have wx4 := w4
  have hI := ix_Edegrees hI w4
  refine lv_pop hx hb dL_law_1254 rfl ?_
  refine lv_aload_n hx hb dL_law_1255 rfl (lvA2 hl) ?_
  refine lv_aload_n hx hb dL_law_1256 rfl (lvA0 hl) ?_
  refine lv_iload_n hx hb dL_law_1257 rfl (lvA3 hl) ?_
  refine lv_iconst (v := 1) hx hb dL_law_1258 kic_1 ?_
  refine lv_iadd hx hb dL_law_1259 ?_
  refine lv_topi (fun y_6 ey_6 => ?_)
  obtain rfl : y_6 = nI (i + 1) := ey_6.trans (nI_add i 1)
  refine va_sld hx hb hX hbl hbA hS (vp_in_nI (by omega) (by omega)) dL_law_1260 ?_
  refine lv_topi (fun y_7 ey_7 => ?_)
  obtain rfl : y_7 = xs (nI (i + 1)).toNatClampNeg := ey_7
  refine lv_aload_n hx hb dL_law_1261 rfl (lvA0 hl) ?_
  refine lv_iload_n hx hb dL_law_1262 rfl (lvA3 hl) ?_
  refine lv_iconst (v := 2) hx hb dL_law_1263 kic_2 ?_
  refine lv_iadd hx hb dL_law_1264 ?_
  refine lv_topi (fun y_8 ey_8 => ?_)
  obtain rfl : y_8 = nI (i + 2) := ey_8.trans (nI_add i 2)
  refine va_sld hx hb hX hbl hbA hS (vp_in_nI (by omega) (by omega)) dL_law_1265 ?_
  refine lv_topi (fun y_9 ey_9 => ?_)
  obtain rfl : y_9 = xs (nI (i + 2)).toNatClampNeg := ey_9
  have hFc := free_all (exDr hD) hS hA
  refine va_calli (runV_a (As := [.int (xs (nI (i + 1)).toNatClampNeg), .int (xs (nI (i + 2)).toNatClampNeg)]) (rest := []) S (q_degrees l D cI cB cZ g2 c3 I3 F3 (xs (nI (i + 1)).toNatClampNeg) (xs (nI (i + 2)).toNatClampNeg) H.size hM.1) kV_RL_139 hK (exPr hP) (exDr hD) 0 rfl rfl rfl ⟨Nat.le_of_ble_eq_true rfl, Nat.le_of_ble_eq_true rfl⟩ ⟨(by show K + 0 ≤ 600000; omega), (by show N + 0 ≤ 7302250; omega)⟩ rfl hl.1 rfl (Nat.le_of_ble_eq_true rfl) dL_law_1266) hS (fun q _ h => hFc q h) hFc (fun r9 u t H1 locs ht hvm w9 hB1 hz1 hk1 hS => ?_)
  obtain ⟨c9, I9, F9⟩ := u
  obtain ⟨hP1, hD1⟩ := hB1
  rw [ht] at hP1
  obtain ⟨hP, hD⟩ := exjoin hP hD hk1 hFc hP1 hD1
  generalize H1 = H at hP hS ⊢
  obtain ⟨he9, hR⟩ := eq_degrees hI0 hM hR wx4 w9
  obtain ⟨hM, -, -⟩ := imm_degrees hM w9
  refine lv_pop hx hb dL_law_1269 rfl ?_
  refine lv_goto (tgt := 2269) hx hb dL_law_1270 rfl ?_
  refine W.widen (k := K + 8) (n := N + 240) (by omega) (by omega) ?_
  exact kk _ _ _ _ _ _ _ _ _ hI hM hR hP hD hS ls hl
set_option maxRecDepth 100000 in
set_option maxHeartbeats 4000000 in
theorem lawc_29 {p : Program} {l : Launch} {e : Env} {s : State} {m : MethodId} {below : List Frame} {meth : Method} {c : Code} {b L : Nat} {xs : Nat → Int32} (C0 : lw_At p s m meth c b L xs) (hLN : L ≤ 3584) {A : Nat → Prop} (hA : ∀ q : Nat, s.heap.size ≤ q → A q) (hbA : ¬ A b) {D : va_G} {cI cB cZ : ClassId} {zz qq vv : Nat} {bt : Nat → Int32} {g g2 : Nat → Nat} (hK : KK D cI cB cZ s) (hXS : XS D zz qq vv bt A s s.heap) {ad : Nat → Nat → Nat} {cn : Nat → Nat} {In : Nat → Int32} {Fn : Nat → Nat → Int32} {c3 : Nat → Nat} {I3 : Nat → Int32} {F3 : Nat → Nat → Int32} (hI : IX ad cn Fn) (hM : IMM c3 F3) (hR : RR cn Fn c3 F3) {H : Heap} {locs : List Loc} (hP : va_P D vwCl (wX cI (D.1 99) zz g ad cn In Fn ++ wM cI cB cZ g2 c3 I3 F3) H) (hD : va_D A (wX cI (D.1 99) zz g ad cn In Fn ++ wM cI cB cZ g2 c3 I3 F3)) (hS : va_S A s.heap H locs) {K N i : Nat} (hi : i + 7 ≤ L) (hKN : K + 8 ≤ 600000 ∧ N + 240 ≤ 7302250) {ls : Array Slot} (hl : lv_has ls 4 [(0, .ref b), (1, .ref (g 0)), (2, .ref (g2 100)), (3, .int (nI i))]) (kk : ∀ (ad : Nat → Nat → Nat) (cn : Nat → Nat) (In : Nat → Int32) (Fn : Nat → Nat → Int32) (c3 : Nat → Nat) (I3 : Nat → Int32) (F3 : Nat → Nat → Int32) (H : Heap) (locs : List Loc), IX ad cn Fn → IMM c3 F3 → RR cn Fn c3 F3 → va_P D vwCl (wX cI (D.1 99) zz g ad cn In Fn ++ wM cI cB cZ g2 c3 I3 F3) H → va_D A (wX cI (D.1 99) zz g ad cn In Fn ++ wM cI cB cZ g2 c3 I3 F3) → va_S A s.heap H locs → ∀ ls : Array Slot, lv_has ls 4 [(0, .ref b), (1, .ref (g 0)), (2, .ref (g2 100)), (3, .int (nI i))] → W p l e room_1 s m #[Value.ref b] below meth c H locs (K + 8) (N + 240) (lw_Z below #[Value.ref b] s) (F0 m 2269 ls [])) : W p l e room_1 s m #[Value.ref b] below meth c H locs K N (lw_Z below #[Value.ref b] s) (F0 m 1273 ls []) := by
  obtain ⟨hx, hb, hr, hml, hown, hts, hX, hbl, hlocks, hgv⟩ := id C0
  have S : SF p m c code 4 s #[Value.ref b] RL := ⟨hx, hb, hml, hown, fun w h => hts w (wT_lw h)⟩
  refine lv_aload_n hx hb dL_law_1273 rfl (lvA1 hl) ?_
  refine lv_aload_n hx hb dL_law_1274 rfl (lvA0 hl) ?_
  refine lv_iload_n hx hb dL_law_1275 rfl (lvA3 hl) ?_
  refine lv_iconst (v := 1) hx hb dL_law_1276 kic_1 ?_
  refine lv_iadd hx hb dL_law_1277 ?_
  refine lv_topi (fun y_1 ey_1 => ?_)
  obtain rfl : y_1 = nI (i + 1) := ey_1.trans (nI_add i 1)
  refine va_sld hx hb hX hbl hbA hS (vp_in_nI (by omega) (by omega)) dL_law_1278 ?_
  refine lv_topi (fun y_2 ey_2 => ?_)
  obtain rfl : y_2 = xs (nI (i + 1)).toNatClampNeg := ey_2
  refine lv_aload_n hx hb dL_law_1279 rfl (lvA0 hl) ?_
  refine lv_iload_n hx hb dL_law_1280 rfl (lvA3 hl) ?_
  refine lv_iconst (v := 2) hx hb dL_law_1281 kic_2 ?_
  refine lv_iadd hx hb dL_law_1282 ?_
  refine lv_topi (fun y_3 ey_3 => ?_)
  obtain rfl : y_3 = nI (i + 2) := ey_3.trans (nI_add i 2)
  refine va_sld hx hb hX hbl hbA hS (vp_in_nI (by omega) (by omega)) dL_law_1283 ?_
  refine lv_topi (fun y_4 ey_4 => ?_)
  obtain rfl : y_4 = xs (nI (i + 2)).toNatClampNeg := ey_4
  refine vp_callSi (runV_rxa (As := [.int (xs (nI (i + 1)).toNatClampNeg), .int (xs (nI (i + 2)).toNatClampNeg)]) (rest := []) S (q_Xlate l D cI cB cZ zz qq vv bt g ad cn In Fn (xs (nI (i + 1)).toNatClampNeg) (xs (nI (i + 2)).toNatClampNeg) hI.1) kV_RL_140 hK hXS hS (exP hP) 0 xo_0 rfl rfl ⟨Nat.le_of_ble_eq_true rfl, Nat.le_of_ble_eq_true rfl⟩ ⟨(by show K + 0 ≤ 600000; omega), (by show N + 0 ≤ 7302250; omega)⟩ rfl hl.1 rfl (Nat.le_of_ble_eq_true rfl) dL_law_1284) (fun r4 w4 => ?_)
  refine lv_pop hx hb dL_law_1287 rfl ?_
  refine lv_aload_n hx hb dL_law_1288 rfl (lvA2 hl) ?_
  refine lv_aload_n hx hb dL_law_1289 rfl (lvA0 hl) ?_
  refine lv_iload_n hx hb dL_law_1290 rfl (lvA3 hl) ?_
  refine lv_iconst (v := 1) hx hb dL_law_1291 kic_1 ?_
  refine lv_iadd hx hb dL_law_1292 ?_
  refine lv_topi (fun y_6 ey_6 => ?_)
  obtain rfl : y_6 = nI (i + 1) := ey_6.trans (nI_add i 1)
  refine va_sld hx hb hX hbl hbA hS (vp_in_nI (by omega) (by omega)) dL_law_1293 ?_
  refine lv_topi (fun y_7 ey_7 => ?_)
  obtain rfl : y_7 = xs (nI (i + 1)).toNatClampNeg := ey_7
  refine lv_aload_n hx hb dL_law_1294 rfl (lvA0 hl) ?_
  refine lv_iload_n hx hb dL_law_1295 rfl (lvA3 hl) ?_
  refine lv_iconst (v := 2) hx hb dL_law_1296 kic_2 ?_
  refine lv_iadd hx hb dL_law_1297 ?_
  refine lv_topi (fun y_8 ey_8 => ?_)
  obtain rfl : y_8 = nI (i + 2) := ey_8.trans (nI_add i 2)
  refine va_sld hx hb hX hbl hbA hS (vp_in_nI (by omega) (by omega)) dL_law_1298 ?_
  refine lv_topi (fun y_9 ey_9 => ?_)
  obtain rfl : y_9 = xs (nI (i + 2)).toNatClampNeg := ey_9
  refine vp_callSi (runV_ra (As := [.int (xs (nI (i + 1)).toNatClampNeg), .int (xs (nI (i + 2)).toNatClampNeg)]) (rest := []) S (q_late l D cI cB cZ g2 c3 I3 F3 (xs (nI (i + 1)).toNatClampNeg) (xs (nI (i + 2)).toNatClampNeg) hM.1) kV_RL_143 hK (exPr hP) 0 rfl rfl rfl ⟨Nat.le_of_ble_eq_true rfl, Nat.le_of_ble_eq_true rfl⟩ ⟨(by show K + 0 ≤ 600000; omega), (by show N + 0 ≤ 7302250; omega)⟩ rfl hl.1 rfl (Nat.le_of_ble_eq_true rfl) dL_law_1299) (fun r9 w9 => ?_)
  refine lv_pop hx hb dL_law_1302 rfl ?_
  refine lv_goto (tgt := 2269) hx hb dL_law_1303 rfl ?_
  refine W.widen (k := K + 8) (n := N + 240) (by omega) (by omega) ?_
  exact kk _ _ _ _ _ _ _ _ _ hI hM hR hP hD hS ls hl
