theorem dL_law_2826 : decode cL_law 2826 = .ok (.iconst 1, 1) := by decide +kernel
theorem dL_law_2827 : decode cL_law 2827 = .ok (.iadd, 1) := by decide +kernel
theorem dL_law_2828 : decode cL_law 2828 = .ok (.iaload, 1) := by decide +kernel
theorem dL_law_2829 : decode cL_law 2829 = .ok (.aload_n 0, 1) := by decide +kernel
theorem dL_law_2830 : decode cL_law 2830 = .ok (.iload 4, 2) := by decide +kernel
theorem dL_law_2832 : decode cL_law 2832 = .ok (.iconst 2, 1) := by decide +kernel
theorem dL_law_2833 : decode cL_law 2833 = .ok (.iadd, 1) := by decide +kernel
theorem dL_law_2834 : decode cL_law 2834 = .ok (.iaload, 1) := by decide +kernel
theorem dL_law_2835 : decode cL_law 2835 = .ok (.aload_n 3, 1) := by decide +kernel
theorem dL_law_2836 : decode cL_law 2836 = .ok (.invokestatic 290, 3) := by decide +kernel
theorem dL_law_2839 : decode cL_law 2839 = .ok (.istore 5, 2) := by decide +kernel
theorem dL_law_2841 : decode cL_law 2841 = .ok (.aload_n 2, 1) := by decide +kernel
theorem dL_law_2842 : decode cL_law 2842 = .ok (.aload_n 0, 1) := by decide +kernel
theorem dL_law_2843 : decode cL_law 2843 = .ok (.iload 4, 2) := by decide +kernel
theorem dL_law_2845 : decode cL_law 2845 = .ok (.iconst 1, 1) := by decide +kernel
theorem dL_law_2846 : decode cL_law 2846 = .ok (.iadd, 1) := by decide +kernel
theorem dL_law_2847 : decode cL_law 2847 = .ok (.iaload, 1) := by decide +kernel
theorem dL_law_2848 : decode cL_law 2848 = .ok (.aload_n 0, 1) := by decide +kernel
theorem dL_law_2849 : decode cL_law 2849 = .ok (.iload 4, 2) := by decide +kernel
theorem dL_law_2851 : decode cL_law 2851 = .ok (.iconst 2, 1) := by decide +kernel
theorem dL_law_2852 : decode cL_law 2852 = .ok (.iadd, 1) := by decide +kernel
theorem dL_law_2853 : decode cL_law 2853 = .ok (.iaload, 1) := by decide +kernel
theorem dL_law_2854 : decode cL_law 2854 = .ok (.invokevirtual 292, 3) := by decide +kernel
theorem dL_law_2857 : decode cL_law 2857 = .ok (.istore 6, 2) := by decide +kernel
theorem dL_law_2859 : decode cL_law 2859 = .ok (.aload_n 2, 1) := by decide +kernel
theorem dL_law_2860 : decode cL_law 2860 = .ok (.invokevirtual 155, 3) := by decide +kernel
theorem dL_law_2863 : decode cL_law 2863 = .ok (.iload 5, 2) := by decide +kernel
theorem dL_law_2865 : decode cL_law 2865 = .ok (.if_icmp .eq 5, 3) := by decide +kernel
theorem dL_law_2868 : decode cL_law 2868 = .ok (.iconst 0, 1) := by decide +kernel
theorem dL_law_2869 : decode cL_law 2869 = .ok (.ireturn, 1) := by decide +kernel
theorem dL_law_2870 : decode cL_law 2870 = .ok (.iload 5, 2) := by decide +kernel
theorem dL_law_2872 : decode cL_law 2872 = .ok (.ifCond .ne 15, 3) := by decide +kernel
theorem dL_law_2875 : decode cL_law 2875 = .ok (.aload_n 3, 1) := by decide +kernel
theorem dL_law_2876 : decode cL_law 2876 = .ok (.iconst 0, 1) := by decide +kernel
theorem dL_law_2877 : decode cL_law 2877 = .ok (.laload, 1) := by decide +kernel
theorem dL_law_2878 : decode cL_law 2878 = .ok (.iload 6, 2) := by decide +kernel
theorem dL_law_2880 : decode cL_law 2880 = .ok (.i2l, 1) := by decide +kernel
theorem dL_law_2881 : decode cL_law 2881 = .ok (.lcmp, 1) := by decide +kernel
theorem dL_law_2882 : decode cL_law 2882 = .ok (.ifCond .eq 5, 3) := by decide +kernel
theorem dL_law_2885 : decode cL_law 2885 = .ok (.iconst 0, 1) := by decide +kernel
theorem dL_law_2886 : decode cL_law 2886 = .ok (.ireturn, 1) := by decide +kernel
theorem dL_law_2887 : decode cL_law 2887 = .ok (.goto 100, 3) := by decide +kernel
theorem dL_law_2890 : decode cL_law 2890 = .ok (.aload_n 1, 1) := by decide +kernel
theorem dL_law_2891 : decode cL_law 2891 = .ok (.aload_n 0, 1) := by decide +kernel
theorem dL_law_2892 : decode cL_law 2892 = .ok (.iload 4, 2) := by decide +kernel
theorem dL_law_2894 : decode cL_law 2894 = .ok (.iconst 1, 1) := by decide +kernel
theorem dL_law_2895 : decode cL_law 2895 = .ok (.iadd, 1) := by decide +kernel
theorem dL_law_2896 : decode cL_law 2896 = .ok (.iaload, 1) := by decide +kernel
theorem dL_law_2897 : decode cL_law 2897 = .ok (.invokestatic 293, 3) := by decide +kernel
theorem dL_law_2900 : decode cL_law 2900 = .ok (.istore 5, 2) := by decide +kernel
theorem dL_law_2902 : decode cL_law 2902 = .ok (.aload_n 2, 1) := by decide +kernel
theorem dL_law_2903 : decode cL_law 2903 = .ok (.aload_n 0, 1) := by decide +kernel
theorem dL_law_2904 : decode cL_law 2904 = .ok (.iload 4, 2) := by decide +kernel
theorem dL_law_2906 : decode cL_law 2906 = .ok (.iconst 1, 1) := by decide +kernel
theorem dL_law_2907 : decode cL_law 2907 = .ok (.iadd, 1) := by decide +kernel
theorem dL_law_2908 : decode cL_law 2908 = .ok (.iaload, 1) := by decide +kernel
theorem dL_law_2909 : decode cL_law 2909 = .ok (.invokevirtual 296, 3) := by decide +kernel
theorem dL_law_2912 : decode cL_law 2912 = .ok (.aload_n 2, 1) := by decide +kernel
theorem dL_law_2913 : decode cL_law 2913 = .ok (.invokevirtual 155, 3) := by decide +kernel
theorem dL_law_2916 : decode cL_law 2916 = .ok (.iload 5, 2) := by decide +kernel
theorem dL_law_2918 : decode cL_law 2918 = .ok (.if_icmp .eq 5, 3) := by decide +kernel
theorem dL_law_2921 : decode cL_law 2921 = .ok (.iconst 0, 1) := by decide +kernel
theorem dL_law_2922 : decode cL_law 2922 = .ok (.ireturn, 1) := by decide +kernel
theorem dL_law_2923 : decode cL_law 2923 = .ok (.goto 64, 3) := by decide +kernel
theorem dL_law_2926 : decode cL_law 2926 = .ok (.aload_n 1, 1) := by decide +kernel
theorem dL_law_2927 : decode cL_law 2927 = .ok (.aload_n 0, 1) := by decide +kernel
theorem dL_law_2928 : decode cL_law 2928 = .ok (.iload 4, 2) := by decide +kernel
theorem dL_law_2930 : decode cL_law 2930 = .ok (.iconst 1, 1) := by decide +kernel
theorem dL_law_2931 : decode cL_law 2931 = .ok (.iadd, 1) := by decide +kernel
theorem dL_law_2932 : decode cL_law 2932 = .ok (.iaload, 1) := by decide +kernel
theorem dL_law_2933 : decode cL_law 2933 = .ok (.invokestatic 297, 3) := by decide +kernel
theorem dL_law_2936 : decode cL_law 2936 = .ok (.istore 5, 2) := by decide +kernel
theorem dL_law_2938 : decode cL_law 2938 = .ok (.aload_n 2, 1) := by decide +kernel
theorem dL_law_2939 : decode cL_law 2939 = .ok (.aload_n 0, 1) := by decide +kernel
theorem dL_law_2940 : decode cL_law 2940 = .ok (.iload 4, 2) := by decide +kernel
theorem dL_law_2942 : decode cL_law 2942 = .ok (.iconst 1, 1) := by decide +kernel
theorem dL_law_2943 : decode cL_law 2943 = .ok (.iadd, 1) := by decide +kernel
theorem dL_law_2944 : decode cL_law 2944 = .ok (.iaload, 1) := by decide +kernel
theorem dL_law_2945 : decode cL_law 2945 = .ok (.invokevirtual 299, 3) := by decide +kernel
theorem dL_law_2948 : decode cL_law 2948 = .ok (.aload_n 2, 1) := by decide +kernel
theorem dL_law_2949 : decode cL_law 2949 = .ok (.invokevirtual 155, 3) := by decide +kernel
theorem dL_law_2952 : decode cL_law 2952 = .ok (.iload 5, 2) := by decide +kernel
theorem dL_law_2954 : decode cL_law 2954 = .ok (.if_icmp .eq 5, 3) := by decide +kernel
theorem dL_law_2957 : decode cL_law 2957 = .ok (.iconst 0, 1) := by decide +kernel
theorem dL_law_2958 : decode cL_law 2958 = .ok (.ireturn, 1) := by decide +kernel
theorem dL_law_2959 : decode cL_law 2959 = .ok (.goto 28, 3) := by decide +kernel
theorem dL_law_2962 : decode cL_law 2962 = .ok (.aload_n 1, 1) := by decide +kernel
theorem dL_law_2963 : decode cL_law 2963 = .ok (.aload_n 0, 1) := by decide +kernel
theorem dL_law_2964 : decode cL_law 2964 = .ok (.iload 4, 2) := by decide +kernel
theorem dL_law_2966 : decode cL_law 2966 = .ok (.iconst 1, 1) := by decide +kernel
theorem dL_law_2967 : decode cL_law 2967 = .ok (.iadd, 1) := by decide +kernel
theorem dL_law_2968 : decode cL_law 2968 = .ok (.iaload, 1) := by decide +kernel
theorem dL_law_2969 : decode cL_law 2969 = .ok (.invokevirtual 300, 3) := by decide +kernel
theorem dL_law_2972 : decode cL_law 2972 = .ok (.aload_n 2, 1) := by decide +kernel
theorem dL_law_2973 : decode cL_law 2973 = .ok (.aload_n 0, 1) := by decide +kernel
theorem dL_law_2974 : decode cL_law 2974 = .ok (.iload 4, 2) := by decide +kernel
theorem dL_law_2976 : decode cL_law 2976 = .ok (.iconst 1, 1) := by decide +kernel
theorem dL_law_2977 : decode cL_law 2977 = .ok (.iadd, 1) := by decide +kernel
theorem dL_law_2978 : decode cL_law 2978 = .ok (.iaload, 1) := by decide +kernel
theorem dL_law_2979 : decode cL_law 2979 = .ok (.invokevirtual 303, 3) := by decide +kernel
theorem dL_law_2982 : decode cL_law 2982 = .ok (.if_icmp .eq 5, 3) := by decide +kernel
theorem dL_law_2985 : decode cL_law 2985 = .ok (.iconst 0, 1) := by decide +kernel
theorem dL_law_2986 : decode cL_law 2986 = .ok (.ireturn, 1) := by decide +kernel
theorem dL_law_2987 : decode cL_law 2987 = .ok (.iinc 4 7, 3) := by decide +kernel
theorem dL_law_2990 : decode cL_law 2990 = .ok (.goto (-2967), 3) := by decide +kernel
theorem dL_law_2993 : decode cL_law 2993 = .ok (.iconst 1, 1) := by decide +kernel
theorem dL_law_2994 : decode cL_law 2994 = .ok (.ireturn, 1) := by decide +kernel
